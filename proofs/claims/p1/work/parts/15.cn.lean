set_option maxHeartbeats 4000000 in
set_option maxRecDepth 100000 in
theorem c_X11_feed (l : Launch) (dC : Nat → ClassId) (dI : Nat → Nat → Nat) (G : Nat → ClassId) (sz : Nat) (h0 st rp tp cu lt od th be ln ma ah bh ik la lg ce : Nat) (v : Int64)    : Met l yX11_feed (Cond.code yX11_feed cX11_feed 4 (some .int) :: GT) ({ frames := 0, cells := 0, slots := 0, locals := 0 } : Room) (PcW [.ref h0, .long v] dC dI G [(h0, .inr (11, [.ref st, .int 0, .int 0, .ref rp, .int 0, .int 0, .int 0, .int 0, .int 0, .int 0, .ref tp, .int 0, .int 0, .int 0, .int 0, .int 0, .int 0, .int 0, .int 0, .ref cu, .ref lt, .ref od, .ref th, .ref be, .ref ln, .int 0, .ref ma, .int 0, .ref ah, .ref bh, .ref ik, .ref la, .ref lg, .ref ce, .int 0])), (tp, .inl (G 0, 320, .inl (fun _ => 0)))] sz) (va_Qi (fun (r : Int32) (u : Unit) => match u with | _ => (r = 8) ∧ True) (fun _ _ => True) (va_A [(h0, .inr (11, [.ref st, .int 0, .int 0, .ref rp, .int 0, .int 0, .int 0, .int 0, .int 0, .int 0, .ref tp, .int 0, .int 0, .int 0, .int 0, .int 0, .int 0, .int 0, .int 0, .ref cu, .ref lt, .ref od, .ref th, .ref be, .ref ln, .int 0, .ref ma, .int 0, .ref ah, .ref bh, .ref ik, .ref la, .ref lg, .ref ce, .int 0])), (tp, .inl (G 0, 320, .inl (fun _ => 0)))] sz)) 0 0 (va_A [(h0, .inr (11, [.ref st, .int 0, .int 0, .ref rp, .int 0, .int 0, .int 0, .int 0, .int 0, .int 0, .ref tp, .int 0, .int 0, .int 0, .int 0, .int 0, .int 0, .int 0, .int 0, .ref cu, .ref lt, .ref od, .ref th, .ref be, .ref ln, .int 0, .ref ma, .int 0, .ref ah, .ref bh, .ref ik, .ref la, .ref lg, .ref ce, .int 0])), (tp, .inl (G 0, 320, .inl (fun _ => 0)))] sz) := by
  refine Met.ofW (cc := cX11_feed) (maxL := 4) (ret := (some .int)) (by decide) rfl ?_
  intro p e s m args below meth c s₁ B hml hv
  obtain ⟨rfl, hsz, hP, hK, hD0⟩ := hv
  have hx := B.exec
  have hb := B.bytes
  have hr := B.returns
  have hg : ∀ w ∈ GT, w.before ([.ref h0, .long v] : List Value).toArray s = true := fun w h => atoms_spec (ws := Cond.code yX11_feed cX11_feed 4 (some .int) :: GT) B.pre w (List.mem_cons_of_mem _ h)
  have hown : s.vm.findClass RX11 = some m.cls := findClass_of_methodNamed B.named
  have hlocks := B.notSynchronized
  subst hsz
  have hD := hD0.self (sz := s.heap.size)
  generalize hAe : va_A [(h0, .inr (11, [.ref st, .int 0, .int 0, .ref rp, .int 0, .int 0, .int 0, .int 0, .int 0, .int 0, .ref tp, .int 0, .int 0, .int 0, .int 0, .int 0, .int 0, .int 0, .int 0, .ref cu, .ref lt, .ref od, .ref th, .ref be, .ref ln, .int 0, .ref ma, .int 0, .ref ah, .ref bh, .ref ik, .ref la, .ref lg, .ref ce, .int 0])), (tp, .inl (G 0, 320, .inl (fun _ => 0)))] s.heap.size = A at hD ⊢
  have hA : ∀ q : Nat, s.heap.size ≤ q → A q := fun q h => by rw [← hAe]; exact Or.inr h
  have hS : va_S A s.heap s.heap [] := va_S.rf
  have hl := lv_entry ([.ref h0, .long v]) (n := 4) (Nat.le_of_ble_eq_true rfl)
  rw [lg_entry_eq]
  generalize (lg_sl ([.ref h0, .long v]) ++ List.replicate (4 - (lg_sl ([.ref h0, .long v])).length) Slot.unset).toArray = ls at hl ⊢
  have hl : lv_has ls 4 [(0, .ref h0), (1, .long v)] := hl
  refine lv_aload_n hx hb dX11_feed_0 rfl (lv_at hl 0 rfl) ?_
  refine va_get (D := (dC, dI)) (ci := 11) (v := .int 0) (C := RX11) (T := TX11) (N := 35) hx hb hg inG11 hown hK.1 hP 0 rfl rfl 11 (by decide) (hg _ wt_889) (fun _ h9 => h9) rfl dX11_feed_1 ?_
  refine lv_bipush (v := 8) hx hb dX11_feed_4 (by decide) ?_
  refine lv_iadd hx hb dX11_feed_6 ?_
  refine lv_cg (y := 8) (by decide) ?_
  refine lv_sipush (v := 320) hx hb dX11_feed_7 (by decide) ?_
  refine lv_icmp_le (tgt := 16) hx hb dX11_feed_10 (by decide) (fun c1 => ?_) (fun c1 => ?_)
  · skip
    refine lv_bipush (v := 56) hx hb dX11_feed_16 (by decide) ?_
    refine lv_istore_n (lv' := [(3, .int 56), (0, .ref h0), (1, .long v)]) hx hb dX11_feed_18 rfl hl (by decide) rfl (fun ls hl => ?_)
    refine lv_iload_n hx hb dX11_feed_19 rfl (lv_at hl 0 rfl) ?_
    refine lv_if_lt (tgt := 56) hx hb dX11_feed_20 (by decide) (fun c2 => ?_) (fun c2 => ?_)
    · skip
      exact absurd c2 (by decide)
    · skip
      refine lv_aload_n hx hb dX11_feed_23 rfl (lv_at hl 1 rfl) ?_
      refine va_get (D := (dC, dI)) (ci := 11) (v := .ref tp) (C := RX11) (T := TX11) (N := 35) hx hb hg inG11 hown hK.1 hP 0 rfl rfl 10 (by decide) (hg _ wt_888) (fun _ h9 => h9) rfl dX11_feed_24 ?_
      refine lv_aload_n hx hb dX11_feed_27 rfl (lv_at hl 1 rfl) ?_
      refine va_get (D := (dC, dI)) (ci := 11) (v := .int 0) (C := RX11) (T := TX11) (N := 35) hx hb hg inG11 hown hK.1 hP 0 rfl rfl 11 (by decide) (hg _ wt_889) (fun _ h9 => h9) rfl dX11_feed_28 ?_
      refine lv_lload_n hx hb dX11_feed_31 rfl (lv_at hl 2 rfl) ?_
      refine lv_iload_n hx hb dX11_feed_32 rfl (lv_at hl 0 rfl) ?_
      refine lv_lshr (v := _) hx hb dX11_feed_33 rfl ?_
      refine lv_topl (fun v3 ev3 => ?_)
      refine lv_l2i (v := _) hx hb dX11_feed_34 rfl ?_
      refine lv_topi (fun v4 ev4 => ?_)
      refine lv_sipush (v := 255) hx hb dX11_feed_35 (by decide) ?_
      refine lv_iand hx hb dX11_feed_38 ?_
      refine va_iast hx hb hK.1 hP hD hS 1 0 rfl rfl (vp_in_iff.mpr ⟨by decide, by decide⟩) dX11_feed_39 (fun H locs hP hD hS => ?_)
      have hP : va_P (dC, dI) vwCl [(h0, .inr (11, [.ref st, .int 0, .int 0, .ref rp, .int 0, .int 0, .int 0, .int 0, .int 0, .int 0, .ref tp, .int 0, .int 0, .int 0, .int 0, .int 0, .int 0, .int 0, .int 0, .ref cu, .ref lt, .ref od, .ref th, .ref be, .ref ln, .int 0, .ref ma, .int 0, .ref ah, .ref bh, .ref ik, .ref la, .ref lg, .ref ce, .int 0])), (tp, .inl (G 0, 320, .inl (upd (fun _ => 0) 0 (v4 &&& 255))))] H := hP
      have hD : va_D A [(h0, .inr (11, [.ref st, .int 0, .int 0, .ref rp, .int 0, .int 0, .int 0, .int 0, .int 0, .int 0, .ref tp, .int 0, .int 0, .int 0, .int 0, .int 0, .int 0, .int 0, .int 0, .ref cu, .ref lt, .ref od, .ref th, .ref be, .ref ln, .int 0, .ref ma, .int 0, .ref ah, .ref bh, .ref ik, .ref la, .ref lg, .ref ce, .int 0])), (tp, .inl (G 0, 320, .inl (upd (fun _ => 0) 0 (v4 &&& 255))))] := hD
      refine lv_aload_n hx hb dX11_feed_40 rfl (lv_at hl 1 rfl) ?_
      refine lv_dup hx hb dX11_feed_41 rfl ?_
      refine va_get (D := (dC, dI)) (ci := 11) (v := .int 0) (C := RX11) (T := TX11) (N := 35) hx hb hg inG11 hown hK.1 hP 0 rfl rfl 11 (by decide) (hg _ wt_889) (fun _ h9 => h9) rfl dX11_feed_42 ?_
      refine lv_iconst (v := 1) hx hb dX11_feed_45 (by decide) ?_
      refine lv_iadd hx hb dX11_feed_46 ?_
      refine lv_cg (y := 1) (by decide) ?_
      refine va_put (D := (dC, dI)) (ci := 11) (v := .int 1) (ty := .int) (C := RX11) (T := TX11) (N := 35) hx hb hg inG11 tyX11 tyX11_ok nmX11 hown hK.1 hP hD hS 0 rfl rfl 11 (by decide) (hg _ wt_889) (fun _ h9 => h9) rfl (by decide +kernel) rfl rfl (Nat.le_of_ble_eq_true rfl) dX11_feed_47 (fun H locs hP hD hS => ?_)
      have hP : va_P (dC, dI) vwCl [(h0, .inr (11, [.ref st, .int 0, .int 0, .ref rp, .int 0, .int 0, .int 0, .int 0, .int 0, .int 0, .ref tp, .int 1, .int 0, .int 0, .int 0, .int 0, .int 0, .int 0, .int 0, .ref cu, .ref lt, .ref od, .ref th, .ref be, .ref ln, .int 0, .ref ma, .int 0, .ref ah, .ref bh, .ref ik, .ref la, .ref lg, .ref ce, .int 0])), (tp, .inl (G 0, 320, .inl (upd (fun _ => 0) 0 (v4 &&& 255))))] H := hP
      have hD : va_D A [(h0, .inr (11, [.ref st, .int 0, .int 0, .ref rp, .int 0, .int 0, .int 0, .int 0, .int 0, .int 0, .ref tp, .int 1, .int 0, .int 0, .int 0, .int 0, .int 0, .int 0, .int 0, .ref cu, .ref lt, .ref od, .ref th, .ref be, .ref ln, .int 0, .ref ma, .int 0, .ref ah, .ref bh, .ref ik, .ref la, .ref lg, .ref ce, .int 0])), (tp, .inl (G 0, 320, .inl (upd (fun _ => 0) 0 (v4 &&& 255))))] := hD
      refine lv_iinc (v := 48) (lv' := [(3, .int 48), (0, .ref h0), (1, .long v)]) hx hb dX11_feed_50 hl (k := 0) rfl (by decide) (by decide) rfl (fun ls hl => ?_)
      refine lv_goto (tgt := 19) hx hb dX11_feed_53 (by decide) ?_
      refine lv_iload_n hx hb dX11_feed_19 rfl (lv_at hl 0 rfl) ?_
      refine lv_if_lt (tgt := 56) hx hb dX11_feed_20 (by decide) (fun c5 => ?_) (fun c5 => ?_)
      · skip
        exact absurd c5 (by decide)
      · skip
        refine lv_aload_n hx hb dX11_feed_23 rfl (lv_at hl 1 rfl) ?_
        refine va_get (D := (dC, dI)) (ci := 11) (v := .ref tp) (C := RX11) (T := TX11) (N := 35) hx hb hg inG11 hown hK.1 hP 0 rfl rfl 10 (by decide) (hg _ wt_888) (fun _ h9 => h9) rfl dX11_feed_24 ?_
        refine lv_aload_n hx hb dX11_feed_27 rfl (lv_at hl 1 rfl) ?_
        refine va_get (D := (dC, dI)) (ci := 11) (v := .int 1) (C := RX11) (T := TX11) (N := 35) hx hb hg inG11 hown hK.1 hP 0 rfl rfl 11 (by decide) (hg _ wt_889) (fun _ h9 => h9) rfl dX11_feed_28 ?_
        refine lv_lload_n hx hb dX11_feed_31 rfl (lv_at hl 2 rfl) ?_
        refine lv_iload_n hx hb dX11_feed_32 rfl (lv_at hl 0 rfl) ?_
        refine lv_lshr (v := _) hx hb dX11_feed_33 rfl ?_
        refine lv_topl (fun v6 ev6 => ?_)
        refine lv_l2i (v := _) hx hb dX11_feed_34 rfl ?_
        refine lv_topi (fun v7 ev7 => ?_)
        refine lv_sipush (v := 255) hx hb dX11_feed_35 (by decide) ?_
        refine lv_iand hx hb dX11_feed_38 ?_
        refine va_iast hx hb hK.1 hP hD hS 1 0 rfl rfl (vp_in_iff.mpr ⟨by decide, by decide⟩) dX11_feed_39 (fun H locs hP hD hS => ?_)
        have hP : va_P (dC, dI) vwCl [(h0, .inr (11, [.ref st, .int 0, .int 0, .ref rp, .int 0, .int 0, .int 0, .int 0, .int 0, .int 0, .ref tp, .int 1, .int 0, .int 0, .int 0, .int 0, .int 0, .int 0, .int 0, .ref cu, .ref lt, .ref od, .ref th, .ref be, .ref ln, .int 0, .ref ma, .int 0, .ref ah, .ref bh, .ref ik, .ref la, .ref lg, .ref ce, .int 0])), (tp, .inl (G 0, 320, .inl (upd (upd (fun _ => 0) 0 (v4 &&& 255)) 1 (v7 &&& 255))))] H := hP
        have hD : va_D A [(h0, .inr (11, [.ref st, .int 0, .int 0, .ref rp, .int 0, .int 0, .int 0, .int 0, .int 0, .int 0, .ref tp, .int 1, .int 0, .int 0, .int 0, .int 0, .int 0, .int 0, .int 0, .ref cu, .ref lt, .ref od, .ref th, .ref be, .ref ln, .int 0, .ref ma, .int 0, .ref ah, .ref bh, .ref ik, .ref la, .ref lg, .ref ce, .int 0])), (tp, .inl (G 0, 320, .inl (upd (upd (fun _ => 0) 0 (v4 &&& 255)) 1 (v7 &&& 255))))] := hD
        refine lv_aload_n hx hb dX11_feed_40 rfl (lv_at hl 1 rfl) ?_
        refine lv_dup hx hb dX11_feed_41 rfl ?_
        refine va_get (D := (dC, dI)) (ci := 11) (v := .int 1) (C := RX11) (T := TX11) (N := 35) hx hb hg inG11 hown hK.1 hP 0 rfl rfl 11 (by decide) (hg _ wt_889) (fun _ h9 => h9) rfl dX11_feed_42 ?_
        refine lv_iconst (v := 1) hx hb dX11_feed_45 (by decide) ?_
        refine lv_iadd hx hb dX11_feed_46 ?_
        refine lv_cg (y := 2) (by decide) ?_
        refine va_put (D := (dC, dI)) (ci := 11) (v := .int 2) (ty := .int) (C := RX11) (T := TX11) (N := 35) hx hb hg inG11 tyX11 tyX11_ok nmX11 hown hK.1 hP hD hS 0 rfl rfl 11 (by decide) (hg _ wt_889) (fun _ h9 => h9) rfl (by decide +kernel) rfl rfl (Nat.le_of_ble_eq_true rfl) dX11_feed_47 (fun H locs hP hD hS => ?_)
        have hP : va_P (dC, dI) vwCl [(h0, .inr (11, [.ref st, .int 0, .int 0, .ref rp, .int 0, .int 0, .int 0, .int 0, .int 0, .int 0, .ref tp, .int 2, .int 0, .int 0, .int 0, .int 0, .int 0, .int 0, .int 0, .ref cu, .ref lt, .ref od, .ref th, .ref be, .ref ln, .int 0, .ref ma, .int 0, .ref ah, .ref bh, .ref ik, .ref la, .ref lg, .ref ce, .int 0])), (tp, .inl (G 0, 320, .inl (upd (upd (fun _ => 0) 0 (v4 &&& 255)) 1 (v7 &&& 255))))] H := hP
        have hD : va_D A [(h0, .inr (11, [.ref st, .int 0, .int 0, .ref rp, .int 0, .int 0, .int 0, .int 0, .int 0, .int 0, .ref tp, .int 2, .int 0, .int 0, .int 0, .int 0, .int 0, .int 0, .int 0, .ref cu, .ref lt, .ref od, .ref th, .ref be, .ref ln, .int 0, .ref ma, .int 0, .ref ah, .ref bh, .ref ik, .ref la, .ref lg, .ref ce, .int 0])), (tp, .inl (G 0, 320, .inl (upd (upd (fun _ => 0) 0 (v4 &&& 255)) 1 (v7 &&& 255))))] := hD
        refine lv_iinc (v := 40) (lv' := [(3, .int 40), (0, .ref h0), (1, .long v)]) hx hb dX11_feed_50 hl (k := 0) rfl (by decide) (by decide) rfl (fun ls hl => ?_)
        refine lv_goto (tgt := 19) hx hb dX11_feed_53 (by decide) ?_
        refine lv_iload_n hx hb dX11_feed_19 rfl (lv_at hl 0 rfl) ?_
        refine lv_if_lt (tgt := 56) hx hb dX11_feed_20 (by decide) (fun c8 => ?_) (fun c8 => ?_)
        · skip
          exact absurd c8 (by decide)
        · skip
          refine lv_aload_n hx hb dX11_feed_23 rfl (lv_at hl 1 rfl) ?_
          refine va_get (D := (dC, dI)) (ci := 11) (v := .ref tp) (C := RX11) (T := TX11) (N := 35) hx hb hg inG11 hown hK.1 hP 0 rfl rfl 10 (by decide) (hg _ wt_888) (fun _ h9 => h9) rfl dX11_feed_24 ?_
          refine lv_aload_n hx hb dX11_feed_27 rfl (lv_at hl 1 rfl) ?_
          refine va_get (D := (dC, dI)) (ci := 11) (v := .int 2) (C := RX11) (T := TX11) (N := 35) hx hb hg inG11 hown hK.1 hP 0 rfl rfl 11 (by decide) (hg _ wt_889) (fun _ h9 => h9) rfl dX11_feed_28 ?_
          refine lv_lload_n hx hb dX11_feed_31 rfl (lv_at hl 2 rfl) ?_
          refine lv_iload_n hx hb dX11_feed_32 rfl (lv_at hl 0 rfl) ?_
          refine lv_lshr (v := _) hx hb dX11_feed_33 rfl ?_
          refine lv_topl (fun v9 ev9 => ?_)
          refine lv_l2i (v := _) hx hb dX11_feed_34 rfl ?_
          refine lv_topi (fun v10 ev10 => ?_)
          refine lv_sipush (v := 255) hx hb dX11_feed_35 (by decide) ?_
          refine lv_iand hx hb dX11_feed_38 ?_
          refine va_iast hx hb hK.1 hP hD hS 1 0 rfl rfl (vp_in_iff.mpr ⟨by decide, by decide⟩) dX11_feed_39 (fun H locs hP hD hS => ?_)
          have hP : va_P (dC, dI) vwCl [(h0, .inr (11, [.ref st, .int 0, .int 0, .ref rp, .int 0, .int 0, .int 0, .int 0, .int 0, .int 0, .ref tp, .int 2, .int 0, .int 0, .int 0, .int 0, .int 0, .int 0, .int 0, .ref cu, .ref lt, .ref od, .ref th, .ref be, .ref ln, .int 0, .ref ma, .int 0, .ref ah, .ref bh, .ref ik, .ref la, .ref lg, .ref ce, .int 0])), (tp, .inl (G 0, 320, .inl (upd (upd (upd (fun _ => 0) 0 (v4 &&& 255)) 1 (v7 &&& 255)) 2 (v10 &&& 255))))] H := hP
          have hD : va_D A [(h0, .inr (11, [.ref st, .int 0, .int 0, .ref rp, .int 0, .int 0, .int 0, .int 0, .int 0, .int 0, .ref tp, .int 2, .int 0, .int 0, .int 0, .int 0, .int 0, .int 0, .int 0, .ref cu, .ref lt, .ref od, .ref th, .ref be, .ref ln, .int 0, .ref ma, .int 0, .ref ah, .ref bh, .ref ik, .ref la, .ref lg, .ref ce, .int 0])), (tp, .inl (G 0, 320, .inl (upd (upd (upd (fun _ => 0) 0 (v4 &&& 255)) 1 (v7 &&& 255)) 2 (v10 &&& 255))))] := hD
          refine lv_aload_n hx hb dX11_feed_40 rfl (lv_at hl 1 rfl) ?_
          refine lv_dup hx hb dX11_feed_41 rfl ?_
          refine va_get (D := (dC, dI)) (ci := 11) (v := .int 2) (C := RX11) (T := TX11) (N := 35) hx hb hg inG11 hown hK.1 hP 0 rfl rfl 11 (by decide) (hg _ wt_889) (fun _ h9 => h9) rfl dX11_feed_42 ?_
          refine lv_iconst (v := 1) hx hb dX11_feed_45 (by decide) ?_
          refine lv_iadd hx hb dX11_feed_46 ?_
          refine lv_cg (y := 3) (by decide) ?_
          refine va_put (D := (dC, dI)) (ci := 11) (v := .int 3) (ty := .int) (C := RX11) (T := TX11) (N := 35) hx hb hg inG11 tyX11 tyX11_ok nmX11 hown hK.1 hP hD hS 0 rfl rfl 11 (by decide) (hg _ wt_889) (fun _ h9 => h9) rfl (by decide +kernel) rfl rfl (Nat.le_of_ble_eq_true rfl) dX11_feed_47 (fun H locs hP hD hS => ?_)
          have hP : va_P (dC, dI) vwCl [(h0, .inr (11, [.ref st, .int 0, .int 0, .ref rp, .int 0, .int 0, .int 0, .int 0, .int 0, .int 0, .ref tp, .int 3, .int 0, .int 0, .int 0, .int 0, .int 0, .int 0, .int 0, .ref cu, .ref lt, .ref od, .ref th, .ref be, .ref ln, .int 0, .ref ma, .int 0, .ref ah, .ref bh, .ref ik, .ref la, .ref lg, .ref ce, .int 0])), (tp, .inl (G 0, 320, .inl (upd (upd (upd (fun _ => 0) 0 (v4 &&& 255)) 1 (v7 &&& 255)) 2 (v10 &&& 255))))] H := hP
          have hD : va_D A [(h0, .inr (11, [.ref st, .int 0, .int 0, .ref rp, .int 0, .int 0, .int 0, .int 0, .int 0, .int 0, .ref tp, .int 3, .int 0, .int 0, .int 0, .int 0, .int 0, .int 0, .int 0, .ref cu, .ref lt, .ref od, .ref th, .ref be, .ref ln, .int 0, .ref ma, .int 0, .ref ah, .ref bh, .ref ik, .ref la, .ref lg, .ref ce, .int 0])), (tp, .inl (G 0, 320, .inl (upd (upd (upd (fun _ => 0) 0 (v4 &&& 255)) 1 (v7 &&& 255)) 2 (v10 &&& 255))))] := hD
          refine lv_iinc (v := 32) (lv' := [(3, .int 32), (0, .ref h0), (1, .long v)]) hx hb dX11_feed_50 hl (k := 0) rfl (by decide) (by decide) rfl (fun ls hl => ?_)
          refine lv_goto (tgt := 19) hx hb dX11_feed_53 (by decide) ?_
          refine lv_iload_n hx hb dX11_feed_19 rfl (lv_at hl 0 rfl) ?_
          refine lv_if_lt (tgt := 56) hx hb dX11_feed_20 (by decide) (fun c11 => ?_) (fun c11 => ?_)
          · skip
            exact absurd c11 (by decide)
          · skip
            refine lv_aload_n hx hb dX11_feed_23 rfl (lv_at hl 1 rfl) ?_
            refine va_get (D := (dC, dI)) (ci := 11) (v := .ref tp) (C := RX11) (T := TX11) (N := 35) hx hb hg inG11 hown hK.1 hP 0 rfl rfl 10 (by decide) (hg _ wt_888) (fun _ h9 => h9) rfl dX11_feed_24 ?_
            refine lv_aload_n hx hb dX11_feed_27 rfl (lv_at hl 1 rfl) ?_
            refine va_get (D := (dC, dI)) (ci := 11) (v := .int 3) (C := RX11) (T := TX11) (N := 35) hx hb hg inG11 hown hK.1 hP 0 rfl rfl 11 (by decide) (hg _ wt_889) (fun _ h9 => h9) rfl dX11_feed_28 ?_
            refine lv_lload_n hx hb dX11_feed_31 rfl (lv_at hl 2 rfl) ?_
            refine lv_iload_n hx hb dX11_feed_32 rfl (lv_at hl 0 rfl) ?_
            refine lv_lshr (v := _) hx hb dX11_feed_33 rfl ?_
            refine lv_topl (fun v12 ev12 => ?_)
            refine lv_l2i (v := _) hx hb dX11_feed_34 rfl ?_
            refine lv_topi (fun v13 ev13 => ?_)
            refine lv_sipush (v := 255) hx hb dX11_feed_35 (by decide) ?_
            refine lv_iand hx hb dX11_feed_38 ?_
            refine va_iast hx hb hK.1 hP hD hS 1 0 rfl rfl (vp_in_iff.mpr ⟨by decide, by decide⟩) dX11_feed_39 (fun H locs hP hD hS => ?_)
            have hP : va_P (dC, dI) vwCl [(h0, .inr (11, [.ref st, .int 0, .int 0, .ref rp, .int 0, .int 0, .int 0, .int 0, .int 0, .int 0, .ref tp, .int 3, .int 0, .int 0, .int 0, .int 0, .int 0, .int 0, .int 0, .ref cu, .ref lt, .ref od, .ref th, .ref be, .ref ln, .int 0, .ref ma, .int 0, .ref ah, .ref bh, .ref ik, .ref la, .ref lg, .ref ce, .int 0])), (tp, .inl (G 0, 320, .inl (upd (upd (upd (upd (fun _ => 0) 0 (v4 &&& 255)) 1 (v7 &&& 255)) 2 (v10 &&& 255)) 3 (v13 &&& 255))))] H := hP
            have hD : va_D A [(h0, .inr (11, [.ref st, .int 0, .int 0, .ref rp, .int 0, .int 0, .int 0, .int 0, .int 0, .int 0, .ref tp, .int 3, .int 0, .int 0, .int 0, .int 0, .int 0, .int 0, .int 0, .ref cu, .ref lt, .ref od, .ref th, .ref be, .ref ln, .int 0, .ref ma, .int 0, .ref ah, .ref bh, .ref ik, .ref la, .ref lg, .ref ce, .int 0])), (tp, .inl (G 0, 320, .inl (upd (upd (upd (upd (fun _ => 0) 0 (v4 &&& 255)) 1 (v7 &&& 255)) 2 (v10 &&& 255)) 3 (v13 &&& 255))))] := hD
            refine lv_aload_n hx hb dX11_feed_40 rfl (lv_at hl 1 rfl) ?_
            refine lv_dup hx hb dX11_feed_41 rfl ?_
            refine va_get (D := (dC, dI)) (ci := 11) (v := .int 3) (C := RX11) (T := TX11) (N := 35) hx hb hg inG11 hown hK.1 hP 0 rfl rfl 11 (by decide) (hg _ wt_889) (fun _ h9 => h9) rfl dX11_feed_42 ?_
            refine lv_iconst (v := 1) hx hb dX11_feed_45 (by decide) ?_
            refine lv_iadd hx hb dX11_feed_46 ?_
            refine lv_cg (y := 4) (by decide) ?_
            refine va_put (D := (dC, dI)) (ci := 11) (v := .int 4) (ty := .int) (C := RX11) (T := TX11) (N := 35) hx hb hg inG11 tyX11 tyX11_ok nmX11 hown hK.1 hP hD hS 0 rfl rfl 11 (by decide) (hg _ wt_889) (fun _ h9 => h9) rfl (by decide +kernel) rfl rfl (Nat.le_of_ble_eq_true rfl) dX11_feed_47 (fun H locs hP hD hS => ?_)
            have hP : va_P (dC, dI) vwCl [(h0, .inr (11, [.ref st, .int 0, .int 0, .ref rp, .int 0, .int 0, .int 0, .int 0, .int 0, .int 0, .ref tp, .int 4, .int 0, .int 0, .int 0, .int 0, .int 0, .int 0, .int 0, .ref cu, .ref lt, .ref od, .ref th, .ref be, .ref ln, .int 0, .ref ma, .int 0, .ref ah, .ref bh, .ref ik, .ref la, .ref lg, .ref ce, .int 0])), (tp, .inl (G 0, 320, .inl (upd (upd (upd (upd (fun _ => 0) 0 (v4 &&& 255)) 1 (v7 &&& 255)) 2 (v10 &&& 255)) 3 (v13 &&& 255))))] H := hP
            have hD : va_D A [(h0, .inr (11, [.ref st, .int 0, .int 0, .ref rp, .int 0, .int 0, .int 0, .int 0, .int 0, .int 0, .ref tp, .int 4, .int 0, .int 0, .int 0, .int 0, .int 0, .int 0, .int 0, .ref cu, .ref lt, .ref od, .ref th, .ref be, .ref ln, .int 0, .ref ma, .int 0, .ref ah, .ref bh, .ref ik, .ref la, .ref lg, .ref ce, .int 0])), (tp, .inl (G 0, 320, .inl (upd (upd (upd (upd (fun _ => 0) 0 (v4 &&& 255)) 1 (v7 &&& 255)) 2 (v10 &&& 255)) 3 (v13 &&& 255))))] := hD
            refine lv_iinc (v := 24) (lv' := [(3, .int 24), (0, .ref h0), (1, .long v)]) hx hb dX11_feed_50 hl (k := 0) rfl (by decide) (by decide) rfl (fun ls hl => ?_)
            refine lv_goto (tgt := 19) hx hb dX11_feed_53 (by decide) ?_
            refine lv_iload_n hx hb dX11_feed_19 rfl (lv_at hl 0 rfl) ?_
            refine lv_if_lt (tgt := 56) hx hb dX11_feed_20 (by decide) (fun c14 => ?_) (fun c14 => ?_)
            · skip
              exact absurd c14 (by decide)
            · skip
              refine lv_aload_n hx hb dX11_feed_23 rfl (lv_at hl 1 rfl) ?_
              refine va_get (D := (dC, dI)) (ci := 11) (v := .ref tp) (C := RX11) (T := TX11) (N := 35) hx hb hg inG11 hown hK.1 hP 0 rfl rfl 10 (by decide) (hg _ wt_888) (fun _ h9 => h9) rfl dX11_feed_24 ?_
              refine lv_aload_n hx hb dX11_feed_27 rfl (lv_at hl 1 rfl) ?_
              refine va_get (D := (dC, dI)) (ci := 11) (v := .int 4) (C := RX11) (T := TX11) (N := 35) hx hb hg inG11 hown hK.1 hP 0 rfl rfl 11 (by decide) (hg _ wt_889) (fun _ h9 => h9) rfl dX11_feed_28 ?_
              refine lv_lload_n hx hb dX11_feed_31 rfl (lv_at hl 2 rfl) ?_
              refine lv_iload_n hx hb dX11_feed_32 rfl (lv_at hl 0 rfl) ?_
              refine lv_lshr (v := _) hx hb dX11_feed_33 rfl ?_
              refine lv_topl (fun v15 ev15 => ?_)
              refine lv_l2i (v := _) hx hb dX11_feed_34 rfl ?_
              refine lv_topi (fun v16 ev16 => ?_)
              refine lv_sipush (v := 255) hx hb dX11_feed_35 (by decide) ?_
              refine lv_iand hx hb dX11_feed_38 ?_
              refine va_iast hx hb hK.1 hP hD hS 1 0 rfl rfl (vp_in_iff.mpr ⟨by decide, by decide⟩) dX11_feed_39 (fun H locs hP hD hS => ?_)
              have hP : va_P (dC, dI) vwCl [(h0, .inr (11, [.ref st, .int 0, .int 0, .ref rp, .int 0, .int 0, .int 0, .int 0, .int 0, .int 0, .ref tp, .int 4, .int 0, .int 0, .int 0, .int 0, .int 0, .int 0, .int 0, .ref cu, .ref lt, .ref od, .ref th, .ref be, .ref ln, .int 0, .ref ma, .int 0, .ref ah, .ref bh, .ref ik, .ref la, .ref lg, .ref ce, .int 0])), (tp, .inl (G 0, 320, .inl (upd (upd (upd (upd (upd (fun _ => 0) 0 (v4 &&& 255)) 1 (v7 &&& 255)) 2 (v10 &&& 255)) 3 (v13 &&& 255)) 4 (v16 &&& 255))))] H := hP
              have hD : va_D A [(h0, .inr (11, [.ref st, .int 0, .int 0, .ref rp, .int 0, .int 0, .int 0, .int 0, .int 0, .int 0, .ref tp, .int 4, .int 0, .int 0, .int 0, .int 0, .int 0, .int 0, .int 0, .ref cu, .ref lt, .ref od, .ref th, .ref be, .ref ln, .int 0, .ref ma, .int 0, .ref ah, .ref bh, .ref ik, .ref la, .ref lg, .ref ce, .int 0])), (tp, .inl (G 0, 320, .inl (upd (upd (upd (upd (upd (fun _ => 0) 0 (v4 &&& 255)) 1 (v7 &&& 255)) 2 (v10 &&& 255)) 3 (v13 &&& 255)) 4 (v16 &&& 255))))] := hD
              refine lv_aload_n hx hb dX11_feed_40 rfl (lv_at hl 1 rfl) ?_
              refine lv_dup hx hb dX11_feed_41 rfl ?_
              refine va_get (D := (dC, dI)) (ci := 11) (v := .int 4) (C := RX11) (T := TX11) (N := 35) hx hb hg inG11 hown hK.1 hP 0 rfl rfl 11 (by decide) (hg _ wt_889) (fun _ h9 => h9) rfl dX11_feed_42 ?_
              refine lv_iconst (v := 1) hx hb dX11_feed_45 (by decide) ?_
              refine lv_iadd hx hb dX11_feed_46 ?_
              refine lv_cg (y := 5) (by decide) ?_
              refine va_put (D := (dC, dI)) (ci := 11) (v := .int 5) (ty := .int) (C := RX11) (T := TX11) (N := 35) hx hb hg inG11 tyX11 tyX11_ok nmX11 hown hK.1 hP hD hS 0 rfl rfl 11 (by decide) (hg _ wt_889) (fun _ h9 => h9) rfl (by decide +kernel) rfl rfl (Nat.le_of_ble_eq_true rfl) dX11_feed_47 (fun H locs hP hD hS => ?_)
              have hP : va_P (dC, dI) vwCl [(h0, .inr (11, [.ref st, .int 0, .int 0, .ref rp, .int 0, .int 0, .int 0, .int 0, .int 0, .int 0, .ref tp, .int 5, .int 0, .int 0, .int 0, .int 0, .int 0, .int 0, .int 0, .ref cu, .ref lt, .ref od, .ref th, .ref be, .ref ln, .int 0, .ref ma, .int 0, .ref ah, .ref bh, .ref ik, .ref la, .ref lg, .ref ce, .int 0])), (tp, .inl (G 0, 320, .inl (upd (upd (upd (upd (upd (fun _ => 0) 0 (v4 &&& 255)) 1 (v7 &&& 255)) 2 (v10 &&& 255)) 3 (v13 &&& 255)) 4 (v16 &&& 255))))] H := hP
              have hD : va_D A [(h0, .inr (11, [.ref st, .int 0, .int 0, .ref rp, .int 0, .int 0, .int 0, .int 0, .int 0, .int 0, .ref tp, .int 5, .int 0, .int 0, .int 0, .int 0, .int 0, .int 0, .int 0, .ref cu, .ref lt, .ref od, .ref th, .ref be, .ref ln, .int 0, .ref ma, .int 0, .ref ah, .ref bh, .ref ik, .ref la, .ref lg, .ref ce, .int 0])), (tp, .inl (G 0, 320, .inl (upd (upd (upd (upd (upd (fun _ => 0) 0 (v4 &&& 255)) 1 (v7 &&& 255)) 2 (v10 &&& 255)) 3 (v13 &&& 255)) 4 (v16 &&& 255))))] := hD
              refine lv_iinc (v := 16) (lv' := [(3, .int 16), (0, .ref h0), (1, .long v)]) hx hb dX11_feed_50 hl (k := 0) rfl (by decide) (by decide) rfl (fun ls hl => ?_)
              refine lv_goto (tgt := 19) hx hb dX11_feed_53 (by decide) ?_
              refine lv_iload_n hx hb dX11_feed_19 rfl (lv_at hl 0 rfl) ?_
              refine lv_if_lt (tgt := 56) hx hb dX11_feed_20 (by decide) (fun c17 => ?_) (fun c17 => ?_)
              · skip
                exact absurd c17 (by decide)
              · skip
                refine lv_aload_n hx hb dX11_feed_23 rfl (lv_at hl 1 rfl) ?_
                refine va_get (D := (dC, dI)) (ci := 11) (v := .ref tp) (C := RX11) (T := TX11) (N := 35) hx hb hg inG11 hown hK.1 hP 0 rfl rfl 10 (by decide) (hg _ wt_888) (fun _ h9 => h9) rfl dX11_feed_24 ?_
                refine lv_aload_n hx hb dX11_feed_27 rfl (lv_at hl 1 rfl) ?_
                refine va_get (D := (dC, dI)) (ci := 11) (v := .int 5) (C := RX11) (T := TX11) (N := 35) hx hb hg inG11 hown hK.1 hP 0 rfl rfl 11 (by decide) (hg _ wt_889) (fun _ h9 => h9) rfl dX11_feed_28 ?_
                refine lv_lload_n hx hb dX11_feed_31 rfl (lv_at hl 2 rfl) ?_
                refine lv_iload_n hx hb dX11_feed_32 rfl (lv_at hl 0 rfl) ?_
                refine lv_lshr (v := _) hx hb dX11_feed_33 rfl ?_
                refine lv_topl (fun v18 ev18 => ?_)
                refine lv_l2i (v := _) hx hb dX11_feed_34 rfl ?_
                refine lv_topi (fun v19 ev19 => ?_)
                refine lv_sipush (v := 255) hx hb dX11_feed_35 (by decide) ?_
                refine lv_iand hx hb dX11_feed_38 ?_
                refine va_iast hx hb hK.1 hP hD hS 1 0 rfl rfl (vp_in_iff.mpr ⟨by decide, by decide⟩) dX11_feed_39 (fun H locs hP hD hS => ?_)
                have hP : va_P (dC, dI) vwCl [(h0, .inr (11, [.ref st, .int 0, .int 0, .ref rp, .int 0, .int 0, .int 0, .int 0, .int 0, .int 0, .ref tp, .int 5, .int 0, .int 0, .int 0, .int 0, .int 0, .int 0, .int 0, .ref cu, .ref lt, .ref od, .ref th, .ref be, .ref ln, .int 0, .ref ma, .int 0, .ref ah, .ref bh, .ref ik, .ref la, .ref lg, .ref ce, .int 0])), (tp, .inl (G 0, 320, .inl (upd (upd (upd (upd (upd (upd (fun _ => 0) 0 (v4 &&& 255)) 1 (v7 &&& 255)) 2 (v10 &&& 255)) 3 (v13 &&& 255)) 4 (v16 &&& 255)) 5 (v19 &&& 255))))] H := hP
                have hD : va_D A [(h0, .inr (11, [.ref st, .int 0, .int 0, .ref rp, .int 0, .int 0, .int 0, .int 0, .int 0, .int 0, .ref tp, .int 5, .int 0, .int 0, .int 0, .int 0, .int 0, .int 0, .int 0, .ref cu, .ref lt, .ref od, .ref th, .ref be, .ref ln, .int 0, .ref ma, .int 0, .ref ah, .ref bh, .ref ik, .ref la, .ref lg, .ref ce, .int 0])), (tp, .inl (G 0, 320, .inl (upd (upd (upd (upd (upd (upd (fun _ => 0) 0 (v4 &&& 255)) 1 (v7 &&& 255)) 2 (v10 &&& 255)) 3 (v13 &&& 255)) 4 (v16 &&& 255)) 5 (v19 &&& 255))))] := hD
                refine lv_aload_n hx hb dX11_feed_40 rfl (lv_at hl 1 rfl) ?_
                refine lv_dup hx hb dX11_feed_41 rfl ?_
                refine va_get (D := (dC, dI)) (ci := 11) (v := .int 5) (C := RX11) (T := TX11) (N := 35) hx hb hg inG11 hown hK.1 hP 0 rfl rfl 11 (by decide) (hg _ wt_889) (fun _ h9 => h9) rfl dX11_feed_42 ?_
                refine lv_iconst (v := 1) hx hb dX11_feed_45 (by decide) ?_
                refine lv_iadd hx hb dX11_feed_46 ?_
                refine lv_cg (y := 6) (by decide) ?_
                refine va_put (D := (dC, dI)) (ci := 11) (v := .int 6) (ty := .int) (C := RX11) (T := TX11) (N := 35) hx hb hg inG11 tyX11 tyX11_ok nmX11 hown hK.1 hP hD hS 0 rfl rfl 11 (by decide) (hg _ wt_889) (fun _ h9 => h9) rfl (by decide +kernel) rfl rfl (Nat.le_of_ble_eq_true rfl) dX11_feed_47 (fun H locs hP hD hS => ?_)
                have hP : va_P (dC, dI) vwCl [(h0, .inr (11, [.ref st, .int 0, .int 0, .ref rp, .int 0, .int 0, .int 0, .int 0, .int 0, .int 0, .ref tp, .int 6, .int 0, .int 0, .int 0, .int 0, .int 0, .int 0, .int 0, .ref cu, .ref lt, .ref od, .ref th, .ref be, .ref ln, .int 0, .ref ma, .int 0, .ref ah, .ref bh, .ref ik, .ref la, .ref lg, .ref ce, .int 0])), (tp, .inl (G 0, 320, .inl (upd (upd (upd (upd (upd (upd (fun _ => 0) 0 (v4 &&& 255)) 1 (v7 &&& 255)) 2 (v10 &&& 255)) 3 (v13 &&& 255)) 4 (v16 &&& 255)) 5 (v19 &&& 255))))] H := hP
                have hD : va_D A [(h0, .inr (11, [.ref st, .int 0, .int 0, .ref rp, .int 0, .int 0, .int 0, .int 0, .int 0, .int 0, .ref tp, .int 6, .int 0, .int 0, .int 0, .int 0, .int 0, .int 0, .int 0, .ref cu, .ref lt, .ref od, .ref th, .ref be, .ref ln, .int 0, .ref ma, .int 0, .ref ah, .ref bh, .ref ik, .ref la, .ref lg, .ref ce, .int 0])), (tp, .inl (G 0, 320, .inl (upd (upd (upd (upd (upd (upd (fun _ => 0) 0 (v4 &&& 255)) 1 (v7 &&& 255)) 2 (v10 &&& 255)) 3 (v13 &&& 255)) 4 (v16 &&& 255)) 5 (v19 &&& 255))))] := hD
                refine lv_iinc (v := 8) (lv' := [(3, .int 8), (0, .ref h0), (1, .long v)]) hx hb dX11_feed_50 hl (k := 0) rfl (by decide) (by decide) rfl (fun ls hl => ?_)
                refine lv_goto (tgt := 19) hx hb dX11_feed_53 (by decide) ?_
                refine lv_iload_n hx hb dX11_feed_19 rfl (lv_at hl 0 rfl) ?_
                refine lv_if_lt (tgt := 56) hx hb dX11_feed_20 (by decide) (fun c20 => ?_) (fun c20 => ?_)
                · skip
                  exact absurd c20 (by decide)
                · skip
                  refine lv_aload_n hx hb dX11_feed_23 rfl (lv_at hl 1 rfl) ?_
                  refine va_get (D := (dC, dI)) (ci := 11) (v := .ref tp) (C := RX11) (T := TX11) (N := 35) hx hb hg inG11 hown hK.1 hP 0 rfl rfl 10 (by decide) (hg _ wt_888) (fun _ h9 => h9) rfl dX11_feed_24 ?_
                  refine lv_aload_n hx hb dX11_feed_27 rfl (lv_at hl 1 rfl) ?_
                  refine va_get (D := (dC, dI)) (ci := 11) (v := .int 6) (C := RX11) (T := TX11) (N := 35) hx hb hg inG11 hown hK.1 hP 0 rfl rfl 11 (by decide) (hg _ wt_889) (fun _ h9 => h9) rfl dX11_feed_28 ?_
                  refine lv_lload_n hx hb dX11_feed_31 rfl (lv_at hl 2 rfl) ?_
                  refine lv_iload_n hx hb dX11_feed_32 rfl (lv_at hl 0 rfl) ?_
                  refine lv_lshr (v := _) hx hb dX11_feed_33 rfl ?_
                  refine lv_topl (fun v21 ev21 => ?_)
                  refine lv_l2i (v := _) hx hb dX11_feed_34 rfl ?_
                  refine lv_topi (fun v22 ev22 => ?_)
                  refine lv_sipush (v := 255) hx hb dX11_feed_35 (by decide) ?_
                  refine lv_iand hx hb dX11_feed_38 ?_
                  refine va_iast hx hb hK.1 hP hD hS 1 0 rfl rfl (vp_in_iff.mpr ⟨by decide, by decide⟩) dX11_feed_39 (fun H locs hP hD hS => ?_)
                  have hP : va_P (dC, dI) vwCl [(h0, .inr (11, [.ref st, .int 0, .int 0, .ref rp, .int 0, .int 0, .int 0, .int 0, .int 0, .int 0, .ref tp, .int 6, .int 0, .int 0, .int 0, .int 0, .int 0, .int 0, .int 0, .ref cu, .ref lt, .ref od, .ref th, .ref be, .ref ln, .int 0, .ref ma, .int 0, .ref ah, .ref bh, .ref ik, .ref la, .ref lg, .ref ce, .int 0])), (tp, .inl (G 0, 320, .inl (upd (upd (upd (upd (upd (upd (upd (fun _ => 0) 0 (v4 &&& 255)) 1 (v7 &&& 255)) 2 (v10 &&& 255)) 3 (v13 &&& 255)) 4 (v16 &&& 255)) 5 (v19 &&& 255)) 6 (v22 &&& 255))))] H := hP
                  have hD : va_D A [(h0, .inr (11, [.ref st, .int 0, .int 0, .ref rp, .int 0, .int 0, .int 0, .int 0, .int 0, .int 0, .ref tp, .int 6, .int 0, .int 0, .int 0, .int 0, .int 0, .int 0, .int 0, .ref cu, .ref lt, .ref od, .ref th, .ref be, .ref ln, .int 0, .ref ma, .int 0, .ref ah, .ref bh, .ref ik, .ref la, .ref lg, .ref ce, .int 0])), (tp, .inl (G 0, 320, .inl (upd (upd (upd (upd (upd (upd (upd (fun _ => 0) 0 (v4 &&& 255)) 1 (v7 &&& 255)) 2 (v10 &&& 255)) 3 (v13 &&& 255)) 4 (v16 &&& 255)) 5 (v19 &&& 255)) 6 (v22 &&& 255))))] := hD
                  refine lv_aload_n hx hb dX11_feed_40 rfl (lv_at hl 1 rfl) ?_
                  refine lv_dup hx hb dX11_feed_41 rfl ?_
                  refine va_get (D := (dC, dI)) (ci := 11) (v := .int 6) (C := RX11) (T := TX11) (N := 35) hx hb hg inG11 hown hK.1 hP 0 rfl rfl 11 (by decide) (hg _ wt_889) (fun _ h9 => h9) rfl dX11_feed_42 ?_
                  refine lv_iconst (v := 1) hx hb dX11_feed_45 (by decide) ?_
                  refine lv_iadd hx hb dX11_feed_46 ?_
                  refine lv_cg (y := 7) (by decide) ?_
                  refine va_put (D := (dC, dI)) (ci := 11) (v := .int 7) (ty := .int) (C := RX11) (T := TX11) (N := 35) hx hb hg inG11 tyX11 tyX11_ok nmX11 hown hK.1 hP hD hS 0 rfl rfl 11 (by decide) (hg _ wt_889) (fun _ h9 => h9) rfl (by decide +kernel) rfl rfl (Nat.le_of_ble_eq_true rfl) dX11_feed_47 (fun H locs hP hD hS => ?_)
                  have hP : va_P (dC, dI) vwCl [(h0, .inr (11, [.ref st, .int 0, .int 0, .ref rp, .int 0, .int 0, .int 0, .int 0, .int 0, .int 0, .ref tp, .int 7, .int 0, .int 0, .int 0, .int 0, .int 0, .int 0, .int 0, .ref cu, .ref lt, .ref od, .ref th, .ref be, .ref ln, .int 0, .ref ma, .int 0, .ref ah, .ref bh, .ref ik, .ref la, .ref lg, .ref ce, .int 0])), (tp, .inl (G 0, 320, .inl (upd (upd (upd (upd (upd (upd (upd (fun _ => 0) 0 (v4 &&& 255)) 1 (v7 &&& 255)) 2 (v10 &&& 255)) 3 (v13 &&& 255)) 4 (v16 &&& 255)) 5 (v19 &&& 255)) 6 (v22 &&& 255))))] H := hP
                  have hD : va_D A [(h0, .inr (11, [.ref st, .int 0, .int 0, .ref rp, .int 0, .int 0, .int 0, .int 0, .int 0, .int 0, .ref tp, .int 7, .int 0, .int 0, .int 0, .int 0, .int 0, .int 0, .int 0, .ref cu, .ref lt, .ref od, .ref th, .ref be, .ref ln, .int 0, .ref ma, .int 0, .ref ah, .ref bh, .ref ik, .ref la, .ref lg, .ref ce, .int 0])), (tp, .inl (G 0, 320, .inl (upd (upd (upd (upd (upd (upd (upd (fun _ => 0) 0 (v4 &&& 255)) 1 (v7 &&& 255)) 2 (v10 &&& 255)) 3 (v13 &&& 255)) 4 (v16 &&& 255)) 5 (v19 &&& 255)) 6 (v22 &&& 255))))] := hD
                  refine lv_iinc (v := 0) (lv' := [(3, .int 0), (0, .ref h0), (1, .long v)]) hx hb dX11_feed_50 hl (k := 0) rfl (by decide) (by decide) rfl (fun ls hl => ?_)
                  refine lv_goto (tgt := 19) hx hb dX11_feed_53 (by decide) ?_
                  refine lv_iload_n hx hb dX11_feed_19 rfl (lv_at hl 0 rfl) ?_
                  refine lv_if_lt (tgt := 56) hx hb dX11_feed_20 (by decide) (fun c23 => ?_) (fun c23 => ?_)
                  · skip
                    exact absurd c23 (by decide)
                  · skip
                    refine lv_aload_n hx hb dX11_feed_23 rfl (lv_at hl 1 rfl) ?_
                    refine va_get (D := (dC, dI)) (ci := 11) (v := .ref tp) (C := RX11) (T := TX11) (N := 35) hx hb hg inG11 hown hK.1 hP 0 rfl rfl 10 (by decide) (hg _ wt_888) (fun _ h9 => h9) rfl dX11_feed_24 ?_
                    refine lv_aload_n hx hb dX11_feed_27 rfl (lv_at hl 1 rfl) ?_
                    refine va_get (D := (dC, dI)) (ci := 11) (v := .int 7) (C := RX11) (T := TX11) (N := 35) hx hb hg inG11 hown hK.1 hP 0 rfl rfl 11 (by decide) (hg _ wt_889) (fun _ h9 => h9) rfl dX11_feed_28 ?_
                    refine lv_lload_n hx hb dX11_feed_31 rfl (lv_at hl 2 rfl) ?_
                    refine lv_iload_n hx hb dX11_feed_32 rfl (lv_at hl 0 rfl) ?_
                    refine lv_lshr (v := _) hx hb dX11_feed_33 rfl ?_
                    refine lv_topl (fun v24 ev24 => ?_)
                    refine lv_l2i (v := _) hx hb dX11_feed_34 rfl ?_
                    refine lv_topi (fun v25 ev25 => ?_)
                    refine lv_sipush (v := 255) hx hb dX11_feed_35 (by decide) ?_
                    refine lv_iand hx hb dX11_feed_38 ?_
                    refine va_iast hx hb hK.1 hP hD hS 1 0 rfl rfl (vp_in_iff.mpr ⟨by decide, by decide⟩) dX11_feed_39 (fun H locs hP hD hS => ?_)
                    have hP : va_P (dC, dI) vwCl [(h0, .inr (11, [.ref st, .int 0, .int 0, .ref rp, .int 0, .int 0, .int 0, .int 0, .int 0, .int 0, .ref tp, .int 7, .int 0, .int 0, .int 0, .int 0, .int 0, .int 0, .int 0, .ref cu, .ref lt, .ref od, .ref th, .ref be, .ref ln, .int 0, .ref ma, .int 0, .ref ah, .ref bh, .ref ik, .ref la, .ref lg, .ref ce, .int 0])), (tp, .inl (G 0, 320, .inl (upd (upd (upd (upd (upd (upd (upd (upd (fun _ => 0) 0 (v4 &&& 255)) 1 (v7 &&& 255)) 2 (v10 &&& 255)) 3 (v13 &&& 255)) 4 (v16 &&& 255)) 5 (v19 &&& 255)) 6 (v22 &&& 255)) 7 (v25 &&& 255))))] H := hP
                    have hD : va_D A [(h0, .inr (11, [.ref st, .int 0, .int 0, .ref rp, .int 0, .int 0, .int 0, .int 0, .int 0, .int 0, .ref tp, .int 7, .int 0, .int 0, .int 0, .int 0, .int 0, .int 0, .int 0, .ref cu, .ref lt, .ref od, .ref th, .ref be, .ref ln, .int 0, .ref ma, .int 0, .ref ah, .ref bh, .ref ik, .ref la, .ref lg, .ref ce, .int 0])), (tp, .inl (G 0, 320, .inl (upd (upd (upd (upd (upd (upd (upd (upd (fun _ => 0) 0 (v4 &&& 255)) 1 (v7 &&& 255)) 2 (v10 &&& 255)) 3 (v13 &&& 255)) 4 (v16 &&& 255)) 5 (v19 &&& 255)) 6 (v22 &&& 255)) 7 (v25 &&& 255))))] := hD
                    refine lv_aload_n hx hb dX11_feed_40 rfl (lv_at hl 1 rfl) ?_
                    refine lv_dup hx hb dX11_feed_41 rfl ?_
                    refine va_get (D := (dC, dI)) (ci := 11) (v := .int 7) (C := RX11) (T := TX11) (N := 35) hx hb hg inG11 hown hK.1 hP 0 rfl rfl 11 (by decide) (hg _ wt_889) (fun _ h9 => h9) rfl dX11_feed_42 ?_
                    refine lv_iconst (v := 1) hx hb dX11_feed_45 (by decide) ?_
                    refine lv_iadd hx hb dX11_feed_46 ?_
                    refine lv_cg (y := 8) (by decide) ?_
                    refine va_put (D := (dC, dI)) (ci := 11) (v := .int 8) (ty := .int) (C := RX11) (T := TX11) (N := 35) hx hb hg inG11 tyX11 tyX11_ok nmX11 hown hK.1 hP hD hS 0 rfl rfl 11 (by decide) (hg _ wt_889) (fun _ h9 => h9) rfl (by decide +kernel) rfl rfl (Nat.le_of_ble_eq_true rfl) dX11_feed_47 (fun H locs hP hD hS => ?_)
                    have hP : va_P (dC, dI) vwCl [(h0, .inr (11, [.ref st, .int 0, .int 0, .ref rp, .int 0, .int 0, .int 0, .int 0, .int 0, .int 0, .ref tp, .int 8, .int 0, .int 0, .int 0, .int 0, .int 0, .int 0, .int 0, .ref cu, .ref lt, .ref od, .ref th, .ref be, .ref ln, .int 0, .ref ma, .int 0, .ref ah, .ref bh, .ref ik, .ref la, .ref lg, .ref ce, .int 0])), (tp, .inl (G 0, 320, .inl (upd (upd (upd (upd (upd (upd (upd (upd (fun _ => 0) 0 (v4 &&& 255)) 1 (v7 &&& 255)) 2 (v10 &&& 255)) 3 (v13 &&& 255)) 4 (v16 &&& 255)) 5 (v19 &&& 255)) 6 (v22 &&& 255)) 7 (v25 &&& 255))))] H := hP
                    have hD : va_D A [(h0, .inr (11, [.ref st, .int 0, .int 0, .ref rp, .int 0, .int 0, .int 0, .int 0, .int 0, .int 0, .ref tp, .int 8, .int 0, .int 0, .int 0, .int 0, .int 0, .int 0, .int 0, .ref cu, .ref lt, .ref od, .ref th, .ref be, .ref ln, .int 0, .ref ma, .int 0, .ref ah, .ref bh, .ref ik, .ref la, .ref lg, .ref ce, .int 0])), (tp, .inl (G 0, 320, .inl (upd (upd (upd (upd (upd (upd (upd (upd (fun _ => 0) 0 (v4 &&& 255)) 1 (v7 &&& 255)) 2 (v10 &&& 255)) 3 (v13 &&& 255)) 4 (v16 &&& 255)) 5 (v19 &&& 255)) 6 (v22 &&& 255)) 7 (v25 &&& 255))))] := hD
                    refine lv_iinc (v := (-8)) (lv' := [(3, .int (-8)), (0, .ref h0), (1, .long v)]) hx hb dX11_feed_50 hl (k := 0) rfl (by decide) (by decide) rfl (fun ls hl => ?_)
                    refine lv_goto (tgt := 19) hx hb dX11_feed_53 (by decide) ?_
                    refine lv_iload_n hx hb dX11_feed_19 rfl (lv_at hl 0 rfl) ?_
                    refine lv_if_lt (tgt := 56) hx hb dX11_feed_20 (by decide) (fun c26 => ?_) (fun c26 => ?_)
                    · skip
                      refine lv_aload_n hx hb dX11_feed_56 rfl (lv_at hl 1 rfl) ?_
                      refine va_get (D := (dC, dI)) (ci := 11) (v := .int 8) (C := RX11) (T := TX11) (N := 35) hx hb hg inG11 hown hK.1 hP 0 rfl rfl 11 (by decide) (hg _ wt_889) (fun _ h9 => h9) rfl dX11_feed_57 ?_
                      have hpost : (8 : Int32) = 8 := by
                        have t_c1 := leI c1
                        have t_c2 := nltI c2
                        have t_c5 := nltI c5
                        have t_c8 := nltI c8
                        have t_c11 := nltI c11
                        have t_c14 := nltI c14
                        have t_c17 := nltI c17
                        have t_c20 := nltI c20
                        have t_c23 := nltI c23
                        have t_c26 := ltI c26
                        have : ((-8) : Int32).toInt = -8 := (by decide)
                        have : (0 : Int32).toInt = 0 := (by decide)
                        have : (8 : Int32).toInt = 8 := (by decide)
                        have : (16 : Int32).toInt = 16 := (by decide)
                        have : (24 : Int32).toInt = 24 := (by decide)
                        have : (32 : Int32).toInt = 32 := (by decide)
                        have : (40 : Int32).toInt = 40 := (by decide)
                        have : (48 : Int32).toInt = 48 := (by decide)
                        have : (56 : Int32).toInt = 56 := (by decide)
                        have : (320 : Int32).toInt = 320 := (by decide)
                        first | rfl | ((repeat' split) <;> first | rfl | omega)
                      refine W.widen (k := 0) (n := 0) (by omega) (by omega) ?_
                      exact W.iret (v := 8) hx hb hr (fun t ht hW => ⟨⟨8, (), rfl, ⟨hpost, trivial⟩, trivial⟩, hS.F ht⟩) hS.2.2 dX11_feed_60
                    · skip
                      exact absurd c26 (by decide)
  · skip
    exact absurd c1 (by decide)

set_option maxHeartbeats 4000000 in
set_option maxRecDepth 100000 in
theorem c_X11_end (l : Launch) (dC : Nat → ClassId) (dI : Nat → Nat → Nat) (G : Nat → ClassId) (sz : Nat) (h0 st rp tp cu lt od th be ln ma ah bh ik la lg ce : Nat) (n : Int32)    : Met l yX11_end (Cond.code yX11_end cX11_end 3 (some .int) :: GT) ({ frames := 1, cells := 0, slots := 0, locals := 25 } : Room) (PcW [.ref h0, .int n] dC dI G [(h0, .inr (11, [.ref st, .int 0, .int 0, .ref rp, .int 0, .int 0, .int 0, .int 0, .int 0, .int 0, .ref tp, .int 0, .int 0, .int 0, .int 0, .int 0, .int 0, .int 0, .int 0, .ref cu, .ref lt, .ref od, .ref th, .ref be, .ref ln, .int 0, .ref ma, .int 0, .ref ah, .ref bh, .ref ik, .ref la, .ref lg, .ref ce, .int 0]))] sz) (va_Qi (fun (r : Int32) (u : Unit) => match u with | _ => (r = if n.toInt = 0 then 0 else -1) ∧ True) (fun _ _ => True) (va_A [(h0, .inr (11, [.ref st, .int 0, .int 0, .ref rp, .int 0, .int 0, .int 0, .int 0, .int 0, .int 0, .ref tp, .int 0, .int 0, .int 0, .int 0, .int 0, .int 0, .int 0, .int 0, .ref cu, .ref lt, .ref od, .ref th, .ref be, .ref ln, .int 0, .ref ma, .int 0, .ref ah, .ref bh, .ref ik, .ref la, .ref lg, .ref ce, .int 0]))] sz)) 0 0 (va_A [(h0, .inr (11, [.ref st, .int 0, .int 0, .ref rp, .int 0, .int 0, .int 0, .int 0, .int 0, .int 0, .ref tp, .int 0, .int 0, .int 0, .int 0, .int 0, .int 0, .int 0, .int 0, .ref cu, .ref lt, .ref od, .ref th, .ref be, .ref ln, .int 0, .ref ma, .int 0, .ref ah, .ref bh, .ref ik, .ref la, .ref lg, .ref ce, .int 0]))] sz) := by
  refine Met.ofW (cc := cX11_end) (maxL := 3) (ret := (some .int)) (by decide) rfl ?_
  intro p e s m args below meth c s₁ B hml hv
  obtain ⟨rfl, hsz, hP, hK, hD0⟩ := hv
  have hx := B.exec
  have hb := B.bytes
  have hr := B.returns
  have hg : ∀ w ∈ GT, w.before ([.ref h0, .int n] : List Value).toArray s = true := fun w h => atoms_spec (ws := Cond.code yX11_end cX11_end 3 (some .int) :: GT) B.pre w (List.mem_cons_of_mem _ h)
  have hown : s.vm.findClass RX11 = some m.cls := findClass_of_methodNamed B.named
  have hlocks := B.notSynchronized
  subst hsz
  have hD := hD0.self (sz := s.heap.size)
  generalize hAe : va_A [(h0, .inr (11, [.ref st, .int 0, .int 0, .ref rp, .int 0, .int 0, .int 0, .int 0, .int 0, .int 0, .ref tp, .int 0, .int 0, .int 0, .int 0, .int 0, .int 0, .int 0, .int 0, .ref cu, .ref lt, .ref od, .ref th, .ref be, .ref ln, .int 0, .ref ma, .int 0, .ref ah, .ref bh, .ref ik, .ref la, .ref lg, .ref ce, .int 0]))] s.heap.size = A at hD ⊢
  have hA : ∀ q : Nat, s.heap.size ≤ q → A q := fun q h => by rw [← hAe]; exact Or.inr h
  have hS : va_S A s.heap s.heap [] := va_S.rf
  have hl := lv_entry ([.ref h0, .int n]) (n := 3) (Nat.le_of_ble_eq_true rfl)
  rw [lg_entry_eq]
  generalize (lg_sl ([.ref h0, .int n]) ++ List.replicate (3 - (lg_sl ([.ref h0, .int n])).length) Slot.unset).toArray = ls at hl ⊢
  have hl : lv_has ls 3 [(0, .ref h0), (1, .int n)] := hl
  refine lv_iload_n hx hb dX11_end_0 rfl (lv_at hl 1 rfl) ?_
  refine lv_i2l (v := n.toInt64) hx hb dX11_end_1 rfl ?_
  refine lv_lconst (v := 0) hx hb dX11_end_2 (by decide) ?_
  refine lv_aload_n hx hb dX11_end_3 rfl (lv_at hl 0 rfl) ?_
  refine va_get (D := (dC, dI)) (ci := 11) (v := .int 0) (C := RX11) (T := TX11) (N := 35) hx hb hg inG11 hown hK.1 hP 0 rfl rfl 11 (by decide) (hg _ wt_889) (fun _ h9 => h9) rfl dX11_end_4 ?_
  refine lv_i2l (v := 0) hx hb dX11_end_7 (by decide) ?_
  have hPc := hP.sub (ws' := []) [] rfl
  refine va_calli (va_runS (As := [.long n.toInt64, .long 0, .long 0]) (rest := []) ⟨hx, hb, hml, hown, hg⟩ (c_X11_in l dC dI G _ n.toInt64 0 0 ) (kwS hg mfX11_in wt_992 ⟨Nat.le_of_ble_eq_true rfl, Nat.le_of_ble_eq_true rfl⟩) (preSR hK hPc) rfl rfl hl.1 rfl (lv_room (Nat.le_of_ble_eq_true rfl)) dX11_end_8 ⟨Nat.le_of_ble_eq_true rfl, Nat.le_of_ble_eq_true rfl⟩) hS (fun q h1 h2 => absurd h2 (Nat.not_le.mpr h1)) (fun q h => hA q (Nat.le_trans hS.1 h)) (fun r1 ur1 t H1 locs ht hvm w2 hB hz1 hk1 hS => ?_)
  have hP := keepR hP hk1
  obtain ⟨w2, w2x⟩ := w2
  try simp only [l_ii, show (0 : Int64).toInt = 0 from by decide, show (0 : Int64).toInt = 0 from by decide] at w2
  subst w2
  refine lv_if_ne (tgt := 16) hx hb dX11_end_11 (by decide) (fun c3 => ?_) (fun c3 => ?_)
  · skip
    have b4 := if10_p c3
    refine lv_aload_n hx hb dX11_end_16 rfl (lv_at hl 0 rfl) ?_
    refine va_get (D := (dC, dI)) (ci := 11) (v := .int 0) (C := RX11) (T := TX11) (N := 35) hx hb hg inG11 hown hK.1 hP 0 rfl rfl 11 (by decide) (hg _ wt_889) (fun _ h9 => h9) rfl dX11_end_17 ?_
    refine lv_istore_n (lv' := [(2, .int 0), (0, .ref h0), (1, .int n)]) hx hb dX11_end_20 rfl hl (by decide) rfl (fun ls hl => ?_)
    refine lv_aload_n hx hb dX11_end_21 rfl (lv_at hl 1 rfl) ?_
    refine lv_iload_n hx hb dX11_end_22 rfl (lv_at hl 2 rfl) ?_
    refine va_put (D := (dC, dI)) (ci := 11) (v := .int n) (ty := .int) (C := RX11) (T := TX11) (N := 35) hx hb hg inG11 tyX11 tyX11_ok nmX11 hown hK.1 hP hD hS 0 rfl rfl 11 (by decide) (hg _ wt_889) (fun _ h9 => h9) rfl (by decide +kernel) rfl rfl (Nat.le_of_ble_eq_true rfl) dX11_end_23 (fun H locs hP hD hS => ?_)
    have hP : va_P (dC, dI) vwCl [(h0, .inr (11, [.ref st, .int 0, .int 0, .ref rp, .int 0, .int 0, .int 0, .int 0, .int 0, .int 0, .ref tp, .int n, .int 0, .int 0, .int 0, .int 0, .int 0, .int 0, .int 0, .ref cu, .ref lt, .ref od, .ref th, .ref be, .ref ln, .int 0, .ref ma, .int 0, .ref ah, .ref bh, .ref ik, .ref la, .ref lg, .ref ce, .int 0]))] H := hP
    have hD : va_D A [(h0, .inr (11, [.ref st, .int 0, .int 0, .ref rp, .int 0, .int 0, .int 0, .int 0, .int 0, .int 0, .ref tp, .int n, .int 0, .int 0, .int 0, .int 0, .int 0, .int 0, .int 0, .ref cu, .ref lt, .ref od, .ref th, .ref be, .ref ln, .int 0, .ref ma, .int 0, .ref ah, .ref bh, .ref ik, .ref la, .ref lg, .ref ce, .int 0]))] := hD
    refine lv_iload_n hx hb dX11_end_26 rfl (lv_at hl 0 rfl) ?_
    have hpost : (0 : Int32) = if n.toInt = 0 then 0 else -1 := by
      have t_b4 := b4
      first | rfl | ((repeat' split) <;> first | rfl | omega)
    refine W.widen (k := 0) (n := 0) (by omega) (by omega) ?_
    exact W.iret (v := 0) hx hb hr (fun t ht hW => ⟨⟨0, (), rfl, ⟨hpost, trivial⟩, trivial⟩, hS.F ht⟩) hS.2.2 dX11_end_27
  · skip
    have b5 := if10_n c3
    refine lv_iconst (v := (-1)) hx hb dX11_end_14 (by decide) ?_
    have hpost : ((-1) : Int32) = if n.toInt = 0 then 0 else -1 := by
      have t_b5 := b5
      first | rfl | ((repeat' split) <;> first | rfl | omega)
    refine W.widen (k := 0) (n := 0) (by omega) (by omega) ?_
    exact W.iret (v := (-1)) hx hb hr (fun t ht hW => ⟨⟨(-1), (), rfl, ⟨hpost, trivial⟩, trivial⟩, hS.F ht⟩) hS.2.2 dX11_end_15

set_option maxHeartbeats 4000000 in
set_option maxRecDepth 100000 in
theorem c_X11_text (l : Launch) (dC : Nat → ClassId) (dI : Nat → Nat → Nat) (G : Nat → ClassId) (sz : Nat) (h0 st rp tp cu lt od th be ln ma ah bh ik la lg ce : Nat)    : Met l yX11_text (Cond.code yX11_text cX11_text 3 (some .int) :: GT) ({ frames := 2, cells := 0, slots := 0, locals := 42 } : Room) (PcW [.ref h0] dC dI G [(h0, .inr (11, [.ref st, .int 0, .int 0, .ref rp, .int 0, .int 0, .int 0, .int 0, .int 0, .int 0, .ref tp, .int 0, .int 0, .int 0, .int 0, .int 0, .int 0, .int 0, .int 0, .ref cu, .ref lt, .ref od, .ref th, .ref be, .ref ln, .int 0, .ref ma, .int 0, .ref ah, .ref bh, .ref ik, .ref la, .ref lg, .ref ce, .int 0])), (rp, .inl (G 0, 49, .inl (fun _ => 0))), (st, .inl (G 0, 196, .inl (fun _ => 0))), (ik, .inl (G 2, 2, .inl (fun _ => 0)))] sz) (va_Qi (fun (r : Int32) (u : Unit) => match u with | _ => (r = 0) ∧ True) (fun _ _ => True) (va_A [(h0, .inr (11, [.ref st, .int 0, .int 0, .ref rp, .int 0, .int 0, .int 0, .int 0, .int 0, .int 0, .ref tp, .int 0, .int 0, .int 0, .int 0, .int 0, .int 0, .int 0, .int 0, .ref cu, .ref lt, .ref od, .ref th, .ref be, .ref ln, .int 0, .ref ma, .int 0, .ref ah, .ref bh, .ref ik, .ref la, .ref lg, .ref ce, .int 0])), (rp, .inl (G 0, 49, .inl (fun _ => 0))), (st, .inl (G 0, 196, .inl (fun _ => 0))), (ik, .inl (G 2, 2, .inl (fun _ => 0)))] sz)) 0 0 (va_A [(h0, .inr (11, [.ref st, .int 0, .int 0, .ref rp, .int 0, .int 0, .int 0, .int 0, .int 0, .int 0, .ref tp, .int 0, .int 0, .int 0, .int 0, .int 0, .int 0, .int 0, .int 0, .ref cu, .ref lt, .ref od, .ref th, .ref be, .ref ln, .int 0, .ref ma, .int 0, .ref ah, .ref bh, .ref ik, .ref la, .ref lg, .ref ce, .int 0])), (rp, .inl (G 0, 49, .inl (fun _ => 0))), (st, .inl (G 0, 196, .inl (fun _ => 0))), (ik, .inl (G 2, 2, .inl (fun _ => 0)))] sz) := by
  refine Met.ofW (cc := cX11_text) (maxL := 3) (ret := (some .int)) (by decide) rfl ?_
  intro p e s m args below meth c s₁ B hml hv
  obtain ⟨rfl, hsz, hP, hK, hD0⟩ := hv
  have hx := B.exec
  have hb := B.bytes
  have hr := B.returns
  have hg : ∀ w ∈ GT, w.before ([.ref h0] : List Value).toArray s = true := fun w h => atoms_spec (ws := Cond.code yX11_text cX11_text 3 (some .int) :: GT) B.pre w (List.mem_cons_of_mem _ h)
  have hown : s.vm.findClass RX11 = some m.cls := findClass_of_methodNamed B.named
  have hlocks := B.notSynchronized
  subst hsz
  have hD := hD0.self (sz := s.heap.size)
  generalize hAe : va_A [(h0, .inr (11, [.ref st, .int 0, .int 0, .ref rp, .int 0, .int 0, .int 0, .int 0, .int 0, .int 0, .ref tp, .int 0, .int 0, .int 0, .int 0, .int 0, .int 0, .int 0, .int 0, .ref cu, .ref lt, .ref od, .ref th, .ref be, .ref ln, .int 0, .ref ma, .int 0, .ref ah, .ref bh, .ref ik, .ref la, .ref lg, .ref ce, .int 0])), (rp, .inl (G 0, 49, .inl (fun _ => 0))), (st, .inl (G 0, 196, .inl (fun _ => 0))), (ik, .inl (G 2, 2, .inl (fun _ => 0)))] s.heap.size = A at hD ⊢
  have hA : ∀ q : Nat, s.heap.size ≤ q → A q := fun q h => by rw [← hAe]; exact Or.inr h
  have hS : va_S A s.heap s.heap [] := va_S.rf
  have hl := lv_entry ([.ref h0]) (n := 3) (Nat.le_of_ble_eq_true rfl)
  rw [lg_entry_eq]
  generalize (lg_sl ([.ref h0]) ++ List.replicate (3 - (lg_sl ([.ref h0])).length) Slot.unset).toArray = ls at hl ⊢
  have hl : lv_has ls 3 [(0, .ref h0)] := hl
  refine lv_aload_n hx hb dX11_text_0 rfl (lv_at hl 0 rfl) ?_
  refine lv_iconst (v := 0) hx hb dX11_text_1 (by decide) ?_
  refine va_put (D := (dC, dI)) (ci := 11) (v := .int 0) (ty := .int) (C := RX11) (T := TX11) (N := 35) hx hb hg inG11 tyX11 tyX11_ok nmX11 hown hK.1 hP hD hS 0 rfl rfl 13 (by decide) (hg _ wt_891) (fun _ h9 => h9) rfl (by decide +kernel) rfl rfl (Nat.le_of_ble_eq_true rfl) dX11_text_2 (fun H locs hP hD hS => ?_)
  have hP : va_P (dC, dI) vwCl [(h0, .inr (11, [.ref st, .int 0, .int 0, .ref rp, .int 0, .int 0, .int 0, .int 0, .int 0, .int 0, .ref tp, .int 0, .int 0, .int 0, .int 0, .int 0, .int 0, .int 0, .int 0, .ref cu, .ref lt, .ref od, .ref th, .ref be, .ref ln, .int 0, .ref ma, .int 0, .ref ah, .ref bh, .ref ik, .ref la, .ref lg, .ref ce, .int 0])), (rp, .inl (G 0, 49, .inl (fun _ => 0))), (st, .inl (G 0, 196, .inl (fun _ => 0))), (ik, .inl (G 2, 2, .inl (fun _ => 0)))] H := hP
  have hD : va_D A [(h0, .inr (11, [.ref st, .int 0, .int 0, .ref rp, .int 0, .int 0, .int 0, .int 0, .int 0, .int 0, .ref tp, .int 0, .int 0, .int 0, .int 0, .int 0, .int 0, .int 0, .int 0, .ref cu, .ref lt, .ref od, .ref th, .ref be, .ref ln, .int 0, .ref ma, .int 0, .ref ah, .ref bh, .ref ik, .ref la, .ref lg, .ref ce, .int 0])), (rp, .inl (G 0, 49, .inl (fun _ => 0))), (st, .inl (G 0, 196, .inl (fun _ => 0))), (ik, .inl (G 2, 2, .inl (fun _ => 0)))] := hD
  refine lv_aload_n hx hb dX11_text_5 rfl (lv_at hl 0 rfl) ?_
  refine lv_iconst (v := 0) hx hb dX11_text_6 (by decide) ?_
  refine va_put (D := (dC, dI)) (ci := 11) (v := .int 0) (ty := .int) (C := RX11) (T := TX11) (N := 35) hx hb hg inG11 tyX11 tyX11_ok nmX11 hown hK.1 hP hD hS 0 rfl rfl 15 (by decide) (hg _ wt_893) (fun _ h9 => h9) rfl (by decide +kernel) rfl rfl (Nat.le_of_ble_eq_true rfl) dX11_text_7 (fun H locs hP hD hS => ?_)
  have hP : va_P (dC, dI) vwCl [(h0, .inr (11, [.ref st, .int 0, .int 0, .ref rp, .int 0, .int 0, .int 0, .int 0, .int 0, .int 0, .ref tp, .int 0, .int 0, .int 0, .int 0, .int 0, .int 0, .int 0, .int 0, .ref cu, .ref lt, .ref od, .ref th, .ref be, .ref ln, .int 0, .ref ma, .int 0, .ref ah, .ref bh, .ref ik, .ref la, .ref lg, .ref ce, .int 0])), (rp, .inl (G 0, 49, .inl (fun _ => 0))), (st, .inl (G 0, 196, .inl (fun _ => 0))), (ik, .inl (G 2, 2, .inl (fun _ => 0)))] H := hP
  have hD : va_D A [(h0, .inr (11, [.ref st, .int 0, .int 0, .ref rp, .int 0, .int 0, .int 0, .int 0, .int 0, .int 0, .ref tp, .int 0, .int 0, .int 0, .int 0, .int 0, .int 0, .int 0, .int 0, .ref cu, .ref lt, .ref od, .ref th, .ref be, .ref ln, .int 0, .ref ma, .int 0, .ref ah, .ref bh, .ref ik, .ref la, .ref lg, .ref ce, .int 0])), (rp, .inl (G 0, 49, .inl (fun _ => 0))), (st, .inl (G 0, 196, .inl (fun _ => 0))), (ik, .inl (G 2, 2, .inl (fun _ => 0)))] := hD
  refine lv_aload_n hx hb dX11_text_10 rfl (lv_at hl 0 rfl) ?_
  refine lv_iconst (v := 0) hx hb dX11_text_11 (by decide) ?_
  refine va_put (D := (dC, dI)) (ci := 11) (v := .int 0) (ty := .int) (C := RX11) (T := TX11) (N := 35) hx hb hg inG11 tyX11 tyX11_ok nmX11 hown hK.1 hP hD hS 0 rfl rfl 4 (by decide) (hg _ wt_882) (fun _ h9 => h9) rfl (by decide +kernel) rfl rfl (Nat.le_of_ble_eq_true rfl) dX11_text_12 (fun H locs hP hD hS => ?_)
  have hP : va_P (dC, dI) vwCl [(h0, .inr (11, [.ref st, .int 0, .int 0, .ref rp, .int 0, .int 0, .int 0, .int 0, .int 0, .int 0, .ref tp, .int 0, .int 0, .int 0, .int 0, .int 0, .int 0, .int 0, .int 0, .ref cu, .ref lt, .ref od, .ref th, .ref be, .ref ln, .int 0, .ref ma, .int 0, .ref ah, .ref bh, .ref ik, .ref la, .ref lg, .ref ce, .int 0])), (rp, .inl (G 0, 49, .inl (fun _ => 0))), (st, .inl (G 0, 196, .inl (fun _ => 0))), (ik, .inl (G 2, 2, .inl (fun _ => 0)))] H := hP
  have hD : va_D A [(h0, .inr (11, [.ref st, .int 0, .int 0, .ref rp, .int 0, .int 0, .int 0, .int 0, .int 0, .int 0, .ref tp, .int 0, .int 0, .int 0, .int 0, .int 0, .int 0, .int 0, .int 0, .ref cu, .ref lt, .ref od, .ref th, .ref be, .ref ln, .int 0, .ref ma, .int 0, .ref ah, .ref bh, .ref ik, .ref la, .ref lg, .ref ce, .int 0])), (rp, .inl (G 0, 49, .inl (fun _ => 0))), (st, .inl (G 0, 196, .inl (fun _ => 0))), (ik, .inl (G 2, 2, .inl (fun _ => 0)))] := hD
  refine lv_aload_n hx hb dX11_text_15 rfl (lv_at hl 0 rfl) ?_
  refine lv_iconst (v := 0) hx hb dX11_text_16 (by decide) ?_
  refine va_put (D := (dC, dI)) (ci := 11) (v := .int 0) (ty := .int) (C := RX11) (T := TX11) (N := 35) hx hb hg inG11 tyX11 tyX11_ok nmX11 hown hK.1 hP hD hS 0 rfl rfl 5 (by decide) (hg _ wt_883) (fun _ h9 => h9) rfl (by decide +kernel) rfl rfl (Nat.le_of_ble_eq_true rfl) dX11_text_17 (fun H locs hP hD hS => ?_)
  have hP : va_P (dC, dI) vwCl [(h0, .inr (11, [.ref st, .int 0, .int 0, .ref rp, .int 0, .int 0, .int 0, .int 0, .int 0, .int 0, .ref tp, .int 0, .int 0, .int 0, .int 0, .int 0, .int 0, .int 0, .int 0, .ref cu, .ref lt, .ref od, .ref th, .ref be, .ref ln, .int 0, .ref ma, .int 0, .ref ah, .ref bh, .ref ik, .ref la, .ref lg, .ref ce, .int 0])), (rp, .inl (G 0, 49, .inl (fun _ => 0))), (st, .inl (G 0, 196, .inl (fun _ => 0))), (ik, .inl (G 2, 2, .inl (fun _ => 0)))] H := hP
  have hD : va_D A [(h0, .inr (11, [.ref st, .int 0, .int 0, .ref rp, .int 0, .int 0, .int 0, .int 0, .int 0, .int 0, .ref tp, .int 0, .int 0, .int 0, .int 0, .int 0, .int 0, .int 0, .int 0, .ref cu, .ref lt, .ref od, .ref th, .ref be, .ref ln, .int 0, .ref ma, .int 0, .ref ah, .ref bh, .ref ik, .ref la, .ref lg, .ref ce, .int 0])), (rp, .inl (G 0, 49, .inl (fun _ => 0))), (st, .inl (G 0, 196, .inl (fun _ => 0))), (ik, .inl (G 2, 2, .inl (fun _ => 0)))] := hD
  refine lv_aload_n hx hb dX11_text_20 rfl (lv_at hl 0 rfl) ?_
  refine lv_iconst (v := 0) hx hb dX11_text_21 (by decide) ?_
  refine va_put (D := (dC, dI)) (ci := 11) (v := .int 0) (ty := .boolean) (C := RX11) (T := TX11) (N := 35) hx hb hg inG11 tyX11 tyX11_ok nmX11 hown hK.1 hP hD hS 0 rfl rfl 6 (by decide) (hg _ wt_884) (fun _ h9 => h9) rfl (by decide +kernel) rfl rfl (Nat.le_of_ble_eq_true rfl) dX11_text_22 (fun H locs hP hD hS => ?_)
  have hP : va_P (dC, dI) vwCl [(h0, .inr (11, [.ref st, .int 0, .int 0, .ref rp, .int 0, .int 0, .int 0, .int 0, .int 0, .int 0, .ref tp, .int 0, .int 0, .int 0, .int 0, .int 0, .int 0, .int 0, .int 0, .ref cu, .ref lt, .ref od, .ref th, .ref be, .ref ln, .int 0, .ref ma, .int 0, .ref ah, .ref bh, .ref ik, .ref la, .ref lg, .ref ce, .int 0])), (rp, .inl (G 0, 49, .inl (fun _ => 0))), (st, .inl (G 0, 196, .inl (fun _ => 0))), (ik, .inl (G 2, 2, .inl (fun _ => 0)))] H := hP
  have hD : va_D A [(h0, .inr (11, [.ref st, .int 0, .int 0, .ref rp, .int 0, .int 0, .int 0, .int 0, .int 0, .int 0, .ref tp, .int 0, .int 0, .int 0, .int 0, .int 0, .int 0, .int 0, .int 0, .ref cu, .ref lt, .ref od, .ref th, .ref be, .ref ln, .int 0, .ref ma, .int 0, .ref ah, .ref bh, .ref ik, .ref la, .ref lg, .ref ce, .int 0])), (rp, .inl (G 0, 49, .inl (fun _ => 0))), (st, .inl (G 0, 196, .inl (fun _ => 0))), (ik, .inl (G 2, 2, .inl (fun _ => 0)))] := hD
  refine lv_aload_n hx hb dX11_text_25 rfl (lv_at hl 0 rfl) ?_
  refine lv_iconst (v := 0) hx hb dX11_text_26 (by decide) ?_
  refine va_put (D := (dC, dI)) (ci := 11) (v := .int 0) (ty := .int) (C := RX11) (T := TX11) (N := 35) hx hb hg inG11 tyX11 tyX11_ok nmX11 hown hK.1 hP hD hS 0 rfl rfl 7 (by decide) (hg _ wt_885) (fun _ h9 => h9) rfl (by decide +kernel) rfl rfl (Nat.le_of_ble_eq_true rfl) dX11_text_27 (fun H locs hP hD hS => ?_)
  have hP : va_P (dC, dI) vwCl [(h0, .inr (11, [.ref st, .int 0, .int 0, .ref rp, .int 0, .int 0, .int 0, .int 0, .int 0, .int 0, .ref tp, .int 0, .int 0, .int 0, .int 0, .int 0, .int 0, .int 0, .int 0, .ref cu, .ref lt, .ref od, .ref th, .ref be, .ref ln, .int 0, .ref ma, .int 0, .ref ah, .ref bh, .ref ik, .ref la, .ref lg, .ref ce, .int 0])), (rp, .inl (G 0, 49, .inl (fun _ => 0))), (st, .inl (G 0, 196, .inl (fun _ => 0))), (ik, .inl (G 2, 2, .inl (fun _ => 0)))] H := hP
  have hD : va_D A [(h0, .inr (11, [.ref st, .int 0, .int 0, .ref rp, .int 0, .int 0, .int 0, .int 0, .int 0, .int 0, .ref tp, .int 0, .int 0, .int 0, .int 0, .int 0, .int 0, .int 0, .int 0, .ref cu, .ref lt, .ref od, .ref th, .ref be, .ref ln, .int 0, .ref ma, .int 0, .ref ah, .ref bh, .ref ik, .ref la, .ref lg, .ref ce, .int 0])), (rp, .inl (G 0, 49, .inl (fun _ => 0))), (st, .inl (G 0, 196, .inl (fun _ => 0))), (ik, .inl (G 2, 2, .inl (fun _ => 0)))] := hD
  refine lv_aload_n hx hb dX11_text_30 rfl (lv_at hl 0 rfl) ?_
  refine lv_iconst (v := (-1)) hx hb dX11_text_31 (by decide) ?_
  refine va_put (D := (dC, dI)) (ci := 11) (v := .int (-1)) (ty := .int) (C := RX11) (T := TX11) (N := 35) hx hb hg inG11 tyX11 tyX11_ok nmX11 hown hK.1 hP hD hS 0 rfl rfl 8 (by decide) (hg _ wt_886) (fun _ h9 => h9) rfl (by decide +kernel) rfl rfl (Nat.le_of_ble_eq_true rfl) dX11_text_32 (fun H locs hP hD hS => ?_)
  have hP : va_P (dC, dI) vwCl [(h0, .inr (11, [.ref st, .int 0, .int 0, .ref rp, .int 0, .int 0, .int 0, .int 0, .int (-1), .int 0, .ref tp, .int 0, .int 0, .int 0, .int 0, .int 0, .int 0, .int 0, .int 0, .ref cu, .ref lt, .ref od, .ref th, .ref be, .ref ln, .int 0, .ref ma, .int 0, .ref ah, .ref bh, .ref ik, .ref la, .ref lg, .ref ce, .int 0])), (rp, .inl (G 0, 49, .inl (fun _ => 0))), (st, .inl (G 0, 196, .inl (fun _ => 0))), (ik, .inl (G 2, 2, .inl (fun _ => 0)))] H := hP
  have hD : va_D A [(h0, .inr (11, [.ref st, .int 0, .int 0, .ref rp, .int 0, .int 0, .int 0, .int 0, .int (-1), .int 0, .ref tp, .int 0, .int 0, .int 0, .int 0, .int 0, .int 0, .int 0, .int 0, .ref cu, .ref lt, .ref od, .ref th, .ref be, .ref ln, .int 0, .ref ma, .int 0, .ref ah, .ref bh, .ref ik, .ref la, .ref lg, .ref ce, .int 0])), (rp, .inl (G 0, 49, .inl (fun _ => 0))), (st, .inl (G 0, 196, .inl (fun _ => 0))), (ik, .inl (G 2, 2, .inl (fun _ => 0)))] := hD
  refine lv_aload_n hx hb dX11_text_35 rfl (lv_at hl 0 rfl) ?_
  refine lv_iconst (v := (-1)) hx hb dX11_text_36 (by decide) ?_
  refine va_put (D := (dC, dI)) (ci := 11) (v := .int (-1)) (ty := .int) (C := RX11) (T := TX11) (N := 35) hx hb hg inG11 tyX11 tyX11_ok nmX11 hown hK.1 hP hD hS 0 rfl rfl 9 (by decide) (hg _ wt_887) (fun _ h9 => h9) rfl (by decide +kernel) rfl rfl (Nat.le_of_ble_eq_true rfl) dX11_text_37 (fun H locs hP hD hS => ?_)
  have hP : va_P (dC, dI) vwCl [(h0, .inr (11, [.ref st, .int 0, .int 0, .ref rp, .int 0, .int 0, .int 0, .int 0, .int (-1), .int (-1), .ref tp, .int 0, .int 0, .int 0, .int 0, .int 0, .int 0, .int 0, .int 0, .ref cu, .ref lt, .ref od, .ref th, .ref be, .ref ln, .int 0, .ref ma, .int 0, .ref ah, .ref bh, .ref ik, .ref la, .ref lg, .ref ce, .int 0])), (rp, .inl (G 0, 49, .inl (fun _ => 0))), (st, .inl (G 0, 196, .inl (fun _ => 0))), (ik, .inl (G 2, 2, .inl (fun _ => 0)))] H := hP
  have hD : va_D A [(h0, .inr (11, [.ref st, .int 0, .int 0, .ref rp, .int 0, .int 0, .int 0, .int 0, .int (-1), .int (-1), .ref tp, .int 0, .int 0, .int 0, .int 0, .int 0, .int 0, .int 0, .int 0, .ref cu, .ref lt, .ref od, .ref th, .ref be, .ref ln, .int 0, .ref ma, .int 0, .ref ah, .ref bh, .ref ik, .ref la, .ref lg, .ref ce, .int 0])), (rp, .inl (G 0, 49, .inl (fun _ => 0))), (st, .inl (G 0, 196, .inl (fun _ => 0))), (ik, .inl (G 2, 2, .inl (fun _ => 0)))] := hD
  refine lv_iconst (v := 0) hx hb dX11_text_40 (by decide) ?_
  refine lv_istore_n (lv' := [(1, .int 0), (0, .ref h0)]) hx hb dX11_text_41 rfl hl (by decide) rfl (fun ls hl => ?_)
  refine lv_iconst (v := 0) hx hb dX11_text_42 (by decide) ?_
  refine lv_istore_n (lv' := [(2, .int 0), (1, .int 0), (0, .ref h0)]) hx hb dX11_text_43 rfl hl (by decide) rfl (fun ls hl => ?_)
  have loop44 : ∀ (nf j : Nat), 49 + 1 ≤ j + nf → j ≤ 49 → ∀ (g : Nat → Int32) (H : Heap) (locs : List Loc), va_P (dC, dI) vwCl [(h0, .inr (11, [.ref st, .int 0, .int 0, .ref rp, .int 0, .int 0, .int 0, .int 0, .int (-1), .int (-1), .ref tp, .int 0, .int 0, .int 0, .int 0, .int 0, .int 0, .int 0, .int 0, .ref cu, .ref lt, .ref od, .ref th, .ref be, .ref ln, .int 0, .ref ma, .int 0, .ref ah, .ref bh, .ref ik, .ref la, .ref lg, .ref ce, .int 0])), (rp, .inl (G 0, 49, .inl g)), (st, .inl (G 0, 196, .inl (fun _ => 0))), (ik, .inl (G 2, 2, .inl (fun _ => 0)))] H → va_D A [(h0, .inr (11, [.ref st, .int 0, .int 0, .ref rp, .int 0, .int 0, .int 0, .int 0, .int (-1), .int (-1), .ref tp, .int 0, .int 0, .int 0, .int 0, .int 0, .int 0, .int 0, .int 0, .ref cu, .ref lt, .ref od, .ref th, .ref be, .ref ln, .int 0, .ref ma, .int 0, .ref ah, .ref bh, .ref ik, .ref la, .ref lg, .ref ce, .int 0])), (rp, .inl (G 0, 49, .inl g)), (st, .inl (G 0, 196, .inl (fun _ => 0))), (ik, .inl (G 2, 2, .inl (fun _ => 0)))] → va_S A s.heap H locs → ∀ (ls : Array Slot), lv_has ls 3 [(2, .int (nI j)), (1, .int 0), (0, .ref h0)] → W p l e (headSpec (Cond.code yX11_text cX11_text 3 (some .int) :: GT) ({ frames := 2, cells := 0, slots := 0, locals := 42 } : Room)).room s m ([.ref h0] : List Value).toArray below meth c H locs 0 0 (MQ below (va_Qi (fun (r : Int32) (u : Unit) => match u with | _ => (r = 0) ∧ True) (fun _ _ => True) A) ([.ref h0] : List Value).toArray s 0 0 A) (F0 m 44 ls []) := by
    intro nf
    induction nf with
    | zero => intro j h1 h2; exact absurd h1 (by omega)
    | succ nf ih44 =>
      intro j hn1 hj2 g H locs hP hD hS ls hl
      refine lv_iload_n hx hb dX11_text_44 rfl (lv_at hl 0 rfl) ?_
      refine lv_bipush (v := 49) hx hb dX11_text_45 (by decide) ?_
      refine lv_icmp_ge (tgt := 63) hx hb dX11_text_47 (by decide) (fun c3 => ?_) (fun c3 => ?_)
      · skip
        have n4 : 49 ≤ j := by have t := leI c3; rw [nI_toInt (n := j) (by omega)] at t; have : (49 : Int32).toInt = 49 := (by decide); omega
        refine lv_aload_n hx hb dX11_text_63 rfl (lv_at hl 2 rfl) ?_
        have hPc := hP.sub (ws' := [(h0, .inr (11, [.ref st, .int 0, .int 0, .ref rp, .int 0, .int 0, .int 0, .int 0, .int (-1), .int (-1), .ref tp, .int 0, .int 0, .int 0, .int 0, .int 0, .int 0, .int 0, .int 0, .ref cu, .ref lt, .ref od, .ref th, .ref be, .ref ln, .int 0, .ref ma, .int 0, .ref ah, .ref bh, .ref ik, .ref la, .ref lg, .ref ce, .int 0]))]) [0] rfl
        have hDc := hD.sub (ws' := [(h0, .inr (11, [.ref st, .int 0, .int 0, .ref rp, .int 0, .int 0, .int 0, .int 0, .int (-1), .int (-1), .ref tp, .int 0, .int 0, .int 0, .int 0, .int 0, .int 0, .int 0, .int 0, .ref cu, .ref lt, .ref od, .ref th, .ref be, .ref ln, .int 0, .ref ma, .int 0, .ref ah, .ref bh, .ref ik, .ref la, .ref lg, .ref ce, .int 0]))]) [0] (by decide) rfl
        have hFc := va_free (wc := [(h0, .inr (11, [.ref st, .int 0, .int 0, .ref rp, .int 0, .int 0, .int 0, .int 0, .int (-1), .int (-1), .ref tp, .int 0, .int 0, .int 0, .int 0, .int 0, .int 0, .int 0, .int 0, .ref cu, .ref lt, .ref od, .ref th, .ref be, .ref ln, .int 0, .ref ma, .int 0, .ref ah, .ref bh, .ref ik, .ref la, .ref lg, .ref ce, .int 0]))]) hD hS hA [0] rfl
        refine va_callv (va_runV (As := []) (rest := []) ⟨hx, hb, hml, hown, hg⟩ (c_X11_goesOn l dC dI G _ h0 st rp tp cu lt od th be ln ma ah bh ik la lg ce ) (kwV hg mfX11_goesOn wt_999 ⟨Nat.le_of_ble_eq_true rfl, Nat.le_of_ble_eq_true rfl⟩) (preVW hK hPc hDc (ci := 11) rfl rfl) rfl rfl hl.1 rfl (lv_room (Nat.le_of_ble_eq_true rfl)) dX11_text_64 ⟨Nat.le_of_ble_eq_true rfl, Nat.le_of_ble_eq_true rfl⟩) hS (fun q _ h => hFc q h) hFc (fun ur5 t H1 locs ht hvm w6 hB hz1 hk1 hS => ?_)
        obtain ⟨hP1, hD1⟩ := hB
        rw [ht] at hP1
        obtain ⟨hP, hD⟩ := va_join (wr := [(rp, .inl (G 0, 49, .inl g)), (st, .inl (G 0, 196, .inl (fun _ => 0))), (ik, .inl (G 2, 2, .inl (fun _ => 0)))]) (w1 := [(h0, .inr (11, [.ref st, .int 0, .int 0, .ref rp, .int 0, .int 0, .int 0, .int 0, .int (-1), .int (-1), .ref tp, .int 0, .int 0, .int 0, .int 0, .int 0, .int 0, .int 0, .int 0, .ref cu, .ref lt, .ref od, .ref th, .ref be, .ref ln, .int 0, .ref ma, .int 0, .ref ah, .ref bh, .ref ik, .ref la, .ref lg, .ref ce, .int 0]))]) hP hD [0] [1, 2, 3] rfl rfl (by decide) (by decide) hk1 hFc hP1 hD1
        generalize H1 = H at hP hS ⊢
        have hP : va_P (dC, dI) vwCl [(rp, .inl (G 0, 49, .inl g)), (st, .inl (G 0, 196, .inl (fun _ => 0))), (ik, .inl (G 2, 2, .inl (fun _ => 0))), (h0, .inr (11, [.ref st, .int 0, .int 0, .ref rp, .int 0, .int 0, .int 0, .int 0, .int (-1), .int (-1), .ref tp, .int 0, .int 0, .int 0, .int 0, .int 0, .int 0, .int 0, .int 0, .ref cu, .ref lt, .ref od, .ref th, .ref be, .ref ln, .int 0, .ref ma, .int 0, .ref ah, .ref bh, .ref ik, .ref la, .ref lg, .ref ce, .int 0]))] H := hP
        have hD : va_D A [(rp, .inl (G 0, 49, .inl g)), (st, .inl (G 0, 196, .inl (fun _ => 0))), (ik, .inl (G 2, 2, .inl (fun _ => 0))), (h0, .inr (11, [.ref st, .int 0, .int 0, .ref rp, .int 0, .int 0, .int 0, .int 0, .int (-1), .int (-1), .ref tp, .int 0, .int 0, .int 0, .int 0, .int 0, .int 0, .int 0, .int 0, .ref cu, .ref lt, .ref od, .ref th, .ref be, .ref ln, .int 0, .ref ma, .int 0, .ref ah, .ref bh, .ref ik, .ref la, .ref lg, .ref ce, .int 0]))] := hD
        refine lv_aload_n hx hb dX11_text_67 rfl (lv_at hl 2 rfl) ?_
        refine va_get (D := (dC, dI)) (ci := 11) (v := .int 0) (C := RX11) (T := TX11) (N := 35) hx hb hg inG11 hown hK.1 hP 3 rfl rfl 13 (by decide) (hg _ wt_891) (fun _ h9 => h9) rfl dX11_text_68 ?_
        refine lv_if_ne (tgt := 91) hx hb dX11_text_71 (by decide) (fun c7 => ?_) (fun c7 => ?_)
        · skip
          exact absurd c7 (by decide)
        · skip
          refine lv_aload_n hx hb dX11_text_74 rfl (lv_at hl 2 rfl) ?_
          refine va_get (D := (dC, dI)) (ci := 11) (v := .int 0) (C := RX11) (T := TX11) (N := 35) hx hb hg inG11 hown hK.1 hP 3 rfl rfl 17 (by decide) (hg _ wt_895) (fun _ h9 => h9) rfl dX11_text_75 ?_
          refine lv_if_eq (tgt := 91) hx hb dX11_text_78 (by decide) (fun c8 => ?_) (fun c8 => ?_)
          · skip
            refine lv_aload_n hx hb dX11_text_91 rfl (lv_at hl 2 rfl) ?_
            refine va_get (D := (dC, dI)) (ci := 11) (v := .int 0) (C := RX11) (T := TX11) (N := 35) hx hb hg inG11 hown hK.1 hP 3 rfl rfl 13 (by decide) (hg _ wt_891) (fun _ h9 => h9) rfl dX11_text_92 ?_
            refine lv_if_ne (tgt := 126) hx hb dX11_text_95 (by decide) (fun c9 => ?_) (fun c9 => ?_)
            · skip
              exact absurd c9 (by decide)
            · skip
              refine lv_aload_n hx hb dX11_text_98 rfl (lv_at hl 2 rfl) ?_
              refine va_get (D := (dC, dI)) (ci := 11) (v := .int (-1)) (C := RX11) (T := TX11) (N := 35) hx hb hg inG11 hown hK.1 hP 3 rfl rfl 8 (by decide) (hg _ wt_886) (fun _ h9 => h9) rfl dX11_text_99 ?_
              refine lv_aload_n hx hb dX11_text_102 rfl (lv_at hl 2 rfl) ?_
              refine va_get (D := (dC, dI)) (ci := 11) (v := .int 0) (C := RX11) (T := TX11) (N := 35) hx hb hg inG11 hown hK.1 hP 3 rfl rfl 4 (by decide) (hg _ wt_882) (fun _ h9 => h9) rfl dX11_text_103 ?_
              refine lv_icmp_ge (tgt := 120) hx hb dX11_text_106 (by decide) (fun c10 => ?_) (fun c10 => ?_)
              · skip
                exact absurd c10 (by decide)
              · skip
                refine lv_aload_n hx hb dX11_text_109 rfl (lv_at hl 2 rfl) ?_
                refine va_get (D := (dC, dI)) (ci := 11) (v := .int (-1)) (C := RX11) (T := TX11) (N := 35) hx hb hg inG11 hown hK.1 hP 3 rfl rfl 9 (by decide) (hg _ wt_887) (fun _ h9 => h9) rfl dX11_text_110 ?_
                refine lv_aload_n hx hb dX11_text_113 rfl (lv_at hl 2 rfl) ?_
                refine va_get (D := (dC, dI)) (ci := 11) (v := .int 0) (C := RX11) (T := TX11) (N := 35) hx hb hg inG11 hown hK.1 hP 3 rfl rfl 5 (by decide) (hg _ wt_883) (fun _ h9 => h9) rfl dX11_text_114 ?_
                refine lv_icmp_lt (tgt := 126) hx hb dX11_text_117 (by decide) (fun c11 => ?_) (fun c11 => ?_)
                · skip
                  refine lv_aload_n hx hb dX11_text_126 rfl (lv_at hl 2 rfl) ?_
                  refine va_get (D := (dC, dI)) (ci := 11) (v := .int 0) (C := RX11) (T := TX11) (N := 35) hx hb hg inG11 hown hK.1 hP 3 rfl rfl 13 (by decide) (hg _ wt_891) (fun _ h9 => h9) rfl dX11_text_127 ?_
                  refine lv_if_ne (tgt := 153) hx hb dX11_text_130 (by decide) (fun c12 => ?_) (fun c12 => ?_)
                  · skip
                    exact absurd c12 (by decide)
                  · skip
                    refine lv_aload_n hx hb dX11_text_133 rfl (lv_at hl 2 rfl) ?_
                    refine va_get (D := (dC, dI)) (ci := 11) (v := .int 0) (C := RX11) (T := TX11) (N := 35) hx hb hg inG11 hown hK.1 hP 3 rfl rfl 4 (by decide) (hg _ wt_882) (fun _ h9 => h9) rfl dX11_text_134 ?_
                    refine lv_if_le (tgt := 153) hx hb dX11_text_137 (by decide) (fun c13 => ?_) (fun c13 => ?_)
                    · skip
                      refine lv_aload_n hx hb dX11_text_153 rfl (lv_at hl 2 rfl) ?_
                      refine lv_iconst (v := 0) hx hb dX11_text_154 (by decide) ?_
                      refine va_put (D := (dC, dI)) (ci := 11) (v := .int 0) (ty := .int) (C := RX11) (T := TX11) (N := 35) hx hb hg inG11 tyX11 tyX11_ok nmX11 hown hK.1 hP hD hS 3 rfl rfl 11 (by decide) (hg _ wt_889) (fun _ h9 => h9) rfl (by decide +kernel) rfl rfl (Nat.le_of_ble_eq_true rfl) dX11_text_155 (fun H locs hP hD hS => ?_)
                      have hP : va_P (dC, dI) vwCl [(rp, .inl (G 0, 49, .inl g)), (st, .inl (G 0, 196, .inl (fun _ => 0))), (ik, .inl (G 2, 2, .inl (fun _ => 0))), (h0, .inr (11, [.ref st, .int 0, .int 0, .ref rp, .int 0, .int 0, .int 0, .int 0, .int (-1), .int (-1), .ref tp, .int 0, .int 0, .int 0, .int 0, .int 0, .int 0, .int 0, .int 0, .ref cu, .ref lt, .ref od, .ref th, .ref be, .ref ln, .int 0, .ref ma, .int 0, .ref ah, .ref bh, .ref ik, .ref la, .ref lg, .ref ce, .int 0]))] H := hP
                      have hD : va_D A [(rp, .inl (G 0, 49, .inl g)), (st, .inl (G 0, 196, .inl (fun _ => 0))), (ik, .inl (G 2, 2, .inl (fun _ => 0))), (h0, .inr (11, [.ref st, .int 0, .int 0, .ref rp, .int 0, .int 0, .int 0, .int 0, .int (-1), .int (-1), .ref tp, .int 0, .int 0, .int 0, .int 0, .int 0, .int 0, .int 0, .int 0, .ref cu, .ref lt, .ref od, .ref th, .ref be, .ref ln, .int 0, .ref ma, .int 0, .ref ah, .ref bh, .ref ik, .ref la, .ref lg, .ref ce, .int 0]))] := hD
                      refine lv_aload_n hx hb dX11_text_158 rfl (lv_at hl 2 rfl) ?_
                      refine lv_aload_n hx hb dX11_text_159 rfl (lv_at hl 2 rfl) ?_
                      refine va_get (D := (dC, dI)) (ci := 11) (v := .int 0) (C := RX11) (T := TX11) (N := 35) hx hb hg inG11 hown hK.1 hP 3 rfl rfl 13 (by decide) (hg _ wt_891) (fun _ h9 => h9) rfl dX11_text_160 ?_
                      refine va_put (D := (dC, dI)) (ci := 11) (v := .int 0) (ty := .int) (C := RX11) (T := TX11) (N := 35) hx hb hg inG11 tyX11 tyX11_ok nmX11 hown hK.1 hP hD hS 3 rfl rfl 12 (by decide) (hg _ wt_890) (fun _ h9 => h9) rfl (by decide +kernel) rfl rfl (Nat.le_of_ble_eq_true rfl) dX11_text_163 (fun H locs hP hD hS => ?_)
                      have hP : va_P (dC, dI) vwCl [(rp, .inl (G 0, 49, .inl g)), (st, .inl (G 0, 196, .inl (fun _ => 0))), (ik, .inl (G 2, 2, .inl (fun _ => 0))), (h0, .inr (11, [.ref st, .int 0, .int 0, .ref rp, .int 0, .int 0, .int 0, .int 0, .int (-1), .int (-1), .ref tp, .int 0, .int 0, .int 0, .int 0, .int 0, .int 0, .int 0, .int 0, .ref cu, .ref lt, .ref od, .ref th, .ref be, .ref ln, .int 0, .ref ma, .int 0, .ref ah, .ref bh, .ref ik, .ref la, .ref lg, .ref ce, .int 0]))] H := hP
                      have hD : va_D A [(rp, .inl (G 0, 49, .inl g)), (st, .inl (G 0, 196, .inl (fun _ => 0))), (ik, .inl (G 2, 2, .inl (fun _ => 0))), (h0, .inr (11, [.ref st, .int 0, .int 0, .ref rp, .int 0, .int 0, .int 0, .int 0, .int (-1), .int (-1), .ref tp, .int 0, .int 0, .int 0, .int 0, .int 0, .int 0, .int 0, .int 0, .ref cu, .ref lt, .ref od, .ref th, .ref be, .ref ln, .int 0, .ref ma, .int 0, .ref ah, .ref bh, .ref ik, .ref la, .ref lg, .ref ce, .int 0]))] := hD
                      refine lv_aload_n hx hb dX11_text_166 rfl (lv_at hl 2 rfl) ?_
                      refine va_get (D := (dC, dI)) (ci := 11) (v := .int 0) (C := RX11) (T := TX11) (N := 35) hx hb hg inG11 hown hK.1 hP 3 rfl rfl 13 (by decide) (hg _ wt_891) (fun _ h9 => h9) rfl dX11_text_167 ?_
                      refine lv_if_le (tgt := 181) hx hb dX11_text_170 (by decide) (fun c14 => ?_) (fun c14 => ?_)
                      · skip
                        refine lv_iconst (v := 0) hx hb dX11_text_181 (by decide) ?_
                        refine lv_istore_n (lv' := [(2, .int 0), (1, .int 0), (0, .ref h0)]) hx hb dX11_text_182 rfl hl (by decide) rfl (fun ls hl => ?_)
                        have loop183 : ∀ (nf j2 : Nat), 49 + 1 ≤ j2 + nf → j2 ≤ 49 → ∀ (g2 : Nat → Int32) (H : Heap) (locs : List Loc), va_P (dC, dI) vwCl [(rp, .inl (G 0, 49, .inl g)), (st, .inl (G 0, 196, .inl g2)), (ik, .inl (G 2, 2, .inl (fun _ => 0))), (h0, .inr (11, [.ref st, .int 0, .int 0, .ref rp, .int 0, .int 0, .int 0, .int 0, .int (-1), .int (-1), .ref tp, .int 0, .int 0, .int 0, .int 0, .int 0, .int 0, .int 0, .int 0, .ref cu, .ref lt, .ref od, .ref th, .ref be, .ref ln, .int 0, .ref ma, .int 0, .ref ah, .ref bh, .ref ik, .ref la, .ref lg, .ref ce, .int 0]))] H → va_D A [(rp, .inl (G 0, 49, .inl g)), (st, .inl (G 0, 196, .inl g2)), (ik, .inl (G 2, 2, .inl (fun _ => 0))), (h0, .inr (11, [.ref st, .int 0, .int 0, .ref rp, .int 0, .int 0, .int 0, .int 0, .int (-1), .int (-1), .ref tp, .int 0, .int 0, .int 0, .int 0, .int 0, .int 0, .int 0, .int 0, .ref cu, .ref lt, .ref od, .ref th, .ref be, .ref ln, .int 0, .ref ma, .int 0, .ref ah, .ref bh, .ref ik, .ref la, .ref lg, .ref ce, .int 0]))] → va_S A s.heap H locs → ∀ (ls : Array Slot), lv_has ls 3 [(2, .int (nI j2)), (1, .int 0), (0, .ref h0)] → W p l e (headSpec (Cond.code yX11_text cX11_text 3 (some .int) :: GT) ({ frames := 2, cells := 0, slots := 0, locals := 42 } : Room)).room s m ([.ref h0] : List Value).toArray below meth c H locs 0 0 (MQ below (va_Qi (fun (r : Int32) (u : Unit) => match u with | _ => (r = 0) ∧ True) (fun _ _ => True) A) ([.ref h0] : List Value).toArray s 0 0 A) (F0 m 183 ls []) := by
                          intro nf
                          induction nf with
                          | zero => intro j2 h1 h2; exact absurd h1 (by omega)
                          | succ nf ih183 =>
                            intro j2 hn15 hj16 g2 H locs hP hD hS ls hl
                            refine lv_iload_n hx hb dX11_text_183 rfl (lv_at hl 0 rfl) ?_
                            refine lv_bipush (v := 49) hx hb dX11_text_184 (by decide) ?_
                            refine lv_icmp_ge (tgt := 207) hx hb dX11_text_186 (by decide) (fun c17 => ?_) (fun c17 => ?_)
                            · skip
                              have n18 : 49 ≤ j2 := by have t := leI c17; rw [nI_toInt (n := j2) (by omega)] at t; have : (49 : Int32).toInt = 49 := (by decide); omega
                              refine lv_aload_n hx hb dX11_text_207 rfl (lv_at hl 2 rfl) ?_
                              refine lv_aload_n hx hb dX11_text_208 rfl (lv_at hl 2 rfl) ?_
                              refine va_get (D := (dC, dI)) (ci := 11) (v := .int 0) (C := RX11) (T := TX11) (N := 35) hx hb hg inG11 hown hK.1 hP 3 rfl rfl 4 (by decide) (hg _ wt_882) (fun _ h9 => h9) rfl dX11_text_209 ?_
                              refine va_put (D := (dC, dI)) (ci := 11) (v := .int 0) (ty := .int) (C := RX11) (T := TX11) (N := 35) hx hb hg inG11 tyX11 tyX11_ok nmX11 hown hK.1 hP hD hS 3 rfl rfl 1 (by decide) (hg _ wt_879) (fun _ h9 => h9) rfl (by decide +kernel) rfl rfl (Nat.le_of_ble_eq_true rfl) dX11_text_212 (fun H locs hP hD hS => ?_)
                              have hP : va_P (dC, dI) vwCl [(rp, .inl (G 0, 49, .inl g)), (st, .inl (G 0, 196, .inl g2)), (ik, .inl (G 2, 2, .inl (fun _ => 0))), (h0, .inr (11, [.ref st, .int 0, .int 0, .ref rp, .int 0, .int 0, .int 0, .int 0, .int (-1), .int (-1), .ref tp, .int 0, .int 0, .int 0, .int 0, .int 0, .int 0, .int 0, .int 0, .ref cu, .ref lt, .ref od, .ref th, .ref be, .ref ln, .int 0, .ref ma, .int 0, .ref ah, .ref bh, .ref ik, .ref la, .ref lg, .ref ce, .int 0]))] H := hP
                              have hD : va_D A [(rp, .inl (G 0, 49, .inl g)), (st, .inl (G 0, 196, .inl g2)), (ik, .inl (G 2, 2, .inl (fun _ => 0))), (h0, .inr (11, [.ref st, .int 0, .int 0, .ref rp, .int 0, .int 0, .int 0, .int 0, .int (-1), .int (-1), .ref tp, .int 0, .int 0, .int 0, .int 0, .int 0, .int 0, .int 0, .int 0, .ref cu, .ref lt, .ref od, .ref th, .ref be, .ref ln, .int 0, .ref ma, .int 0, .ref ah, .ref bh, .ref ik, .ref la, .ref lg, .ref ce, .int 0]))] := hD
                              refine lv_aload_n hx hb dX11_text_215 rfl (lv_at hl 2 rfl) ?_
                              refine lv_aload_n hx hb dX11_text_216 rfl (lv_at hl 2 rfl) ?_
                              refine va_get (D := (dC, dI)) (ci := 11) (v := .int 0) (C := RX11) (T := TX11) (N := 35) hx hb hg inG11 hown hK.1 hP 3 rfl rfl 5 (by decide) (hg _ wt_883) (fun _ h9 => h9) rfl dX11_text_217 ?_
                              refine va_put (D := (dC, dI)) (ci := 11) (v := .int 0) (ty := .int) (C := RX11) (T := TX11) (N := 35) hx hb hg inG11 tyX11 tyX11_ok nmX11 hown hK.1 hP hD hS 3 rfl rfl 2 (by decide) (hg _ wt_880) (fun _ h9 => h9) rfl (by decide +kernel) rfl rfl (Nat.le_of_ble_eq_true rfl) dX11_text_220 (fun H locs hP hD hS => ?_)
                              have hP : va_P (dC, dI) vwCl [(rp, .inl (G 0, 49, .inl g)), (st, .inl (G 0, 196, .inl g2)), (ik, .inl (G 2, 2, .inl (fun _ => 0))), (h0, .inr (11, [.ref st, .int 0, .int 0, .ref rp, .int 0, .int 0, .int 0, .int 0, .int (-1), .int (-1), .ref tp, .int 0, .int 0, .int 0, .int 0, .int 0, .int 0, .int 0, .int 0, .ref cu, .ref lt, .ref od, .ref th, .ref be, .ref ln, .int 0, .ref ma, .int 0, .ref ah, .ref bh, .ref ik, .ref la, .ref lg, .ref ce, .int 0]))] H := hP
                              have hD : va_D A [(rp, .inl (G 0, 49, .inl g)), (st, .inl (G 0, 196, .inl g2)), (ik, .inl (G 2, 2, .inl (fun _ => 0))), (h0, .inr (11, [.ref st, .int 0, .int 0, .ref rp, .int 0, .int 0, .int 0, .int 0, .int (-1), .int (-1), .ref tp, .int 0, .int 0, .int 0, .int 0, .int 0, .int 0, .int 0, .int 0, .ref cu, .ref lt, .ref od, .ref th, .ref be, .ref ln, .int 0, .ref ma, .int 0, .ref ah, .ref bh, .ref ik, .ref la, .ref lg, .ref ce, .int 0]))] := hD
                              refine lv_aload_n hx hb dX11_text_223 rfl (lv_at hl 2 rfl) ?_
                              refine lv_iconst (v := 0) hx hb dX11_text_224 (by decide) ?_
                              refine va_put (D := (dC, dI)) (ci := 11) (v := .int 0) (ty := .int) (C := RX11) (T := TX11) (N := 35) hx hb hg inG11 tyX11 tyX11_ok nmX11 hown hK.1 hP hD hS 3 rfl rfl 25 (by decide) (hg _ wt_903) (fun _ h9 => h9) rfl (by decide +kernel) rfl rfl (Nat.le_of_ble_eq_true rfl) dX11_text_225 (fun H locs hP hD hS => ?_)
                              have hP : va_P (dC, dI) vwCl [(rp, .inl (G 0, 49, .inl g)), (st, .inl (G 0, 196, .inl g2)), (ik, .inl (G 2, 2, .inl (fun _ => 0))), (h0, .inr (11, [.ref st, .int 0, .int 0, .ref rp, .int 0, .int 0, .int 0, .int 0, .int (-1), .int (-1), .ref tp, .int 0, .int 0, .int 0, .int 0, .int 0, .int 0, .int 0, .int 0, .ref cu, .ref lt, .ref od, .ref th, .ref be, .ref ln, .int 0, .ref ma, .int 0, .ref ah, .ref bh, .ref ik, .ref la, .ref lg, .ref ce, .int 0]))] H := hP
                              have hD : va_D A [(rp, .inl (G 0, 49, .inl g)), (st, .inl (G 0, 196, .inl g2)), (ik, .inl (G 2, 2, .inl (fun _ => 0))), (h0, .inr (11, [.ref st, .int 0, .int 0, .ref rp, .int 0, .int 0, .int 0, .int 0, .int (-1), .int (-1), .ref tp, .int 0, .int 0, .int 0, .int 0, .int 0, .int 0, .int 0, .int 0, .ref cu, .ref lt, .ref od, .ref th, .ref be, .ref ln, .int 0, .ref ma, .int 0, .ref ah, .ref bh, .ref ik, .ref la, .ref lg, .ref ce, .int 0]))] := hD
                              refine lv_aload_n hx hb dX11_text_228 rfl (lv_at hl 2 rfl) ?_
                              refine lv_iconst (v := 0) hx hb dX11_text_229 (by decide) ?_
                              refine va_put (D := (dC, dI)) (ci := 11) (v := .int 0) (ty := .int) (C := RX11) (T := TX11) (N := 35) hx hb hg inG11 tyX11 tyX11_ok nmX11 hown hK.1 hP hD hS 3 rfl rfl 27 (by decide) (hg _ wt_905) (fun _ h9 => h9) rfl (by decide +kernel) rfl rfl (Nat.le_of_ble_eq_true rfl) dX11_text_230 (fun H locs hP hD hS => ?_)
                              have hP : va_P (dC, dI) vwCl [(rp, .inl (G 0, 49, .inl g)), (st, .inl (G 0, 196, .inl g2)), (ik, .inl (G 2, 2, .inl (fun _ => 0))), (h0, .inr (11, [.ref st, .int 0, .int 0, .ref rp, .int 0, .int 0, .int 0, .int 0, .int (-1), .int (-1), .ref tp, .int 0, .int 0, .int 0, .int 0, .int 0, .int 0, .int 0, .int 0, .ref cu, .ref lt, .ref od, .ref th, .ref be, .ref ln, .int 0, .ref ma, .int 0, .ref ah, .ref bh, .ref ik, .ref la, .ref lg, .ref ce, .int 0]))] H := hP
                              have hD : va_D A [(rp, .inl (G 0, 49, .inl g)), (st, .inl (G 0, 196, .inl g2)), (ik, .inl (G 2, 2, .inl (fun _ => 0))), (h0, .inr (11, [.ref st, .int 0, .int 0, .ref rp, .int 0, .int 0, .int 0, .int 0, .int (-1), .int (-1), .ref tp, .int 0, .int 0, .int 0, .int 0, .int 0, .int 0, .int 0, .int 0, .ref cu, .ref lt, .ref od, .ref th, .ref be, .ref ln, .int 0, .ref ma, .int 0, .ref ah, .ref bh, .ref ik, .ref la, .ref lg, .ref ce, .int 0]))] := hD
                              refine lv_aload_n hx hb dX11_text_233 rfl (lv_at hl 2 rfl) ?_
                              refine va_get (D := (dC, dI)) (ci := 11) (v := .ref ik) (C := RX11) (T := TX11) (N := 35) hx hb hg inG11 hown hK.1 hP 3 rfl rfl 30 (by decide) (hg _ wt_908) (fun _ h9 => h9) rfl dX11_text_234 ?_
                              refine lv_iconst (v := 0) hx hb dX11_text_237 (by decide) ?_
                              refine lv_iconst (v := 0) hx hb dX11_text_238 (by decide) ?_
                              refine va_zast hx hb hK.1 hP hD hS 2 2 rfl rfl (vp_in_iff.mpr ⟨by decide, by decide⟩) dX11_text_239 (fun H locs hP hD hS => ?_)
                              have hP : va_P (dC, dI) vwCl [(rp, .inl (G 0, 49, .inl g)), (st, .inl (G 0, 196, .inl g2)), (ik, .inl (G 2, 2, .inl (upd (fun _ => 0) 0 0))), (h0, .inr (11, [.ref st, .int 0, .int 0, .ref rp, .int 0, .int 0, .int 0, .int 0, .int (-1), .int (-1), .ref tp, .int 0, .int 0, .int 0, .int 0, .int 0, .int 0, .int 0, .int 0, .ref cu, .ref lt, .ref od, .ref th, .ref be, .ref ln, .int 0, .ref ma, .int 0, .ref ah, .ref bh, .ref ik, .ref la, .ref lg, .ref ce, .int 0]))] H := hP
                              have hD : va_D A [(rp, .inl (G 0, 49, .inl g)), (st, .inl (G 0, 196, .inl g2)), (ik, .inl (G 2, 2, .inl (upd (fun _ => 0) 0 0))), (h0, .inr (11, [.ref st, .int 0, .int 0, .ref rp, .int 0, .int 0, .int 0, .int 0, .int (-1), .int (-1), .ref tp, .int 0, .int 0, .int 0, .int 0, .int 0, .int 0, .int 0, .int 0, .ref cu, .ref lt, .ref od, .ref th, .ref be, .ref ln, .int 0, .ref ma, .int 0, .ref ah, .ref bh, .ref ik, .ref la, .ref lg, .ref ce, .int 0]))] := hD
                              refine lv_aload_n hx hb dX11_text_240 rfl (lv_at hl 2 rfl) ?_
                              refine va_get (D := (dC, dI)) (ci := 11) (v := .ref ik) (C := RX11) (T := TX11) (N := 35) hx hb hg inG11 hown hK.1 hP 3 rfl rfl 30 (by decide) (hg _ wt_908) (fun _ h9 => h9) rfl dX11_text_241 ?_
                              refine lv_iconst (v := 1) hx hb dX11_text_244 (by decide) ?_
                              refine lv_iconst (v := 0) hx hb dX11_text_245 (by decide) ?_
                              refine va_zast hx hb hK.1 hP hD hS 2 2 rfl rfl (vp_in_iff.mpr ⟨by decide, by decide⟩) dX11_text_246 (fun H locs hP hD hS => ?_)
                              have hP : va_P (dC, dI) vwCl [(rp, .inl (G 0, 49, .inl g)), (st, .inl (G 0, 196, .inl g2)), (ik, .inl (G 2, 2, .inl (upd (upd (fun _ => 0) 0 0) 1 0))), (h0, .inr (11, [.ref st, .int 0, .int 0, .ref rp, .int 0, .int 0, .int 0, .int 0, .int (-1), .int (-1), .ref tp, .int 0, .int 0, .int 0, .int 0, .int 0, .int 0, .int 0, .int 0, .ref cu, .ref lt, .ref od, .ref th, .ref be, .ref ln, .int 0, .ref ma, .int 0, .ref ah, .ref bh, .ref ik, .ref la, .ref lg, .ref ce, .int 0]))] H := hP
                              have hD : va_D A [(rp, .inl (G 0, 49, .inl g)), (st, .inl (G 0, 196, .inl g2)), (ik, .inl (G 2, 2, .inl (upd (upd (fun _ => 0) 0 0) 1 0))), (h0, .inr (11, [.ref st, .int 0, .int 0, .ref rp, .int 0, .int 0, .int 0, .int 0, .int (-1), .int (-1), .ref tp, .int 0, .int 0, .int 0, .int 0, .int 0, .int 0, .int 0, .int 0, .ref cu, .ref lt, .ref od, .ref th, .ref be, .ref ln, .int 0, .ref ma, .int 0, .ref ah, .ref bh, .ref ik, .ref la, .ref lg, .ref ce, .int 0]))] := hD
                              refine lv_iload_n hx hb dX11_text_247 rfl (lv_at hl 1 rfl) ?_
                              have hpost : (0 : Int32) = 0 := by
                                have t_hj2 := hj2
                                have t_n4 := n4
                                have t_c7 := eqI c7
                                have t_c8 := eqI c8
                                have t_c9 := eqI c9
                                have t_c10 := nleI c10
                                have t_c11 := ltI c11
                                have t_c12 := eqI c12
                                have t_c13 := leI c13
                                have t_c14 := leI c14
                                have t_hj16 := hj16
                                have t_n18 := n18
                                have : ((-1) : Int32).toInt = -1 := (by decide)
                                have : (0 : Int32).toInt = 0 := (by decide)
                                have t_n0 : (nI j).toInt = (j : Int) := nI_toInt (by omega)
                                have t_n1 : (nI j2).toInt = (j2 : Int) := nI_toInt (by omega)
                                first | rfl | ((repeat' split) <;> first | rfl | omega)
                              refine W.widen (k := 0) (n := 0) (by omega) (by omega) ?_
                              exact W.iret (v := 0) hx hb hr (fun t ht hW => ⟨⟨0, (), rfl, ⟨hpost, trivial⟩, trivial⟩, hS.F ht⟩) hS.2.2 dX11_text_248
                            · skip
                              have n19 : j2 < 49 := by have t := nleI c17; rw [nI_toInt (n := j2) (by omega)] at t; have : (49 : Int32).toInt = 49 := (by decide); omega
                              refine lv_aload_n hx hb dX11_text_189 rfl (lv_at hl 2 rfl) ?_
                              refine va_get (D := (dC, dI)) (ci := 11) (v := .ref st) (C := RX11) (T := TX11) (N := 35) hx hb hg inG11 hown hK.1 hP 3 rfl rfl 0 (by decide) (hg _ wt_878) (fun _ h9 => h9) rfl dX11_text_190 ?_
                              refine lv_iload_n hx hb dX11_text_193 rfl (lv_at hl 0 rfl) ?_
                              refine lv_aload_n hx hb dX11_text_194 rfl (lv_at hl 2 rfl) ?_
                              refine va_get (D := (dC, dI)) (ci := 11) (v := .ref rp) (C := RX11) (T := TX11) (N := 35) hx hb hg inG11 hown hK.1 hP 3 rfl rfl 3 (by decide) (hg _ wt_881) (fun _ h9 => h9) rfl dX11_text_195 ?_
                              refine lv_iload_n hx hb dX11_text_198 rfl (lv_at hl 0 rfl) ?_
                              refine va_iald hx hb hK.1 hP 0 0 rfl rfl (vp_in_nI (by omega) (by decide)) dX11_text_199 ?_
                              refine lv_cg (y := g j2) (by rw [nI_clamp (by omega)]) ?_
                              refine va_iast hx hb hK.1 hP hD hS 1 0 rfl rfl (vp_in_nI (by omega) (by decide)) dX11_text_200 (fun H locs hP hD hS => ?_)
                              rw [nI_clamp (by omega)] at hP hD
                              have hP : va_P (dC, dI) vwCl [(rp, .inl (G 0, 49, .inl g)), (st, .inl (G 0, 196, .inl (upd g2 j2 (g j2)))), (ik, .inl (G 2, 2, .inl (fun _ => 0))), (h0, .inr (11, [.ref st, .int 0, .int 0, .ref rp, .int 0, .int 0, .int 0, .int 0, .int (-1), .int (-1), .ref tp, .int 0, .int 0, .int 0, .int 0, .int 0, .int 0, .int 0, .int 0, .ref cu, .ref lt, .ref od, .ref th, .ref be, .ref ln, .int 0, .ref ma, .int 0, .ref ah, .ref bh, .ref ik, .ref la, .ref lg, .ref ce, .int 0]))] H := hP
                              have hD : va_D A [(rp, .inl (G 0, 49, .inl g)), (st, .inl (G 0, 196, .inl (upd g2 j2 (g j2)))), (ik, .inl (G 2, 2, .inl (fun _ => 0))), (h0, .inr (11, [.ref st, .int 0, .int 0, .ref rp, .int 0, .int 0, .int 0, .int 0, .int (-1), .int (-1), .ref tp, .int 0, .int 0, .int 0, .int 0, .int 0, .int 0, .int 0, .int 0, .ref cu, .ref lt, .ref od, .ref th, .ref be, .ref ln, .int 0, .ref ma, .int 0, .ref ah, .ref bh, .ref ik, .ref la, .ref lg, .ref ce, .int 0]))] := hD
                              refine lv_iinc (v := nI (j2 + 1)) (lv' := [(2, .int (nI (j2 + 1))), (1, .int 0), (0, .ref h0)]) hx hb dX11_text_201 hl (k := 0) rfl (by rw [show Int32.ofInt 1 = nI 1 from by decide]; exact nI_add _ _) (by decide) rfl (fun ls hl => ?_)
                              refine lv_goto (tgt := 183) hx hb dX11_text_204 (by decide) ?_
                              exact ih183 ((j2 + 1)) (by omega) (by omega) (upd g2 j2 (g j2)) _ _ hP hD hS ls (lv_sub hl [0, 1, 2] rfl)
                        exact loop183 (49 + 1) 0 (by omega) (by omega) (fun _ => 0) _ _ hP hD hS ls (lv_sub hl [0, 1, 2] rfl)
                      · skip
                        exact absurd c14 (by decide)
                    · skip
                      exact absurd c13 (by decide)
                · skip
                  exact absurd c11 (by decide)
          · skip
            exact absurd c8 (by decide)
      · skip
        have n20 : j < 49 := by have t := nleI c3; rw [nI_toInt (n := j) (by omega)] at t; have : (49 : Int32).toInt = 49 := (by decide); omega
        refine lv_aload_n hx hb dX11_text_50 rfl (lv_at hl 2 rfl) ?_
        refine va_get (D := (dC, dI)) (ci := 11) (v := .ref rp) (C := RX11) (T := TX11) (N := 35) hx hb hg inG11 hown hK.1 hP 0 rfl rfl 3 (by decide) (hg _ wt_881) (fun _ h9 => h9) rfl dX11_text_51 ?_
        refine lv_iload_n hx hb dX11_text_54 rfl (lv_at hl 0 rfl) ?_
        refine lv_iconst (v := 0) hx hb dX11_text_55 (by decide) ?_
        refine va_iast hx hb hK.1 hP hD hS 1 0 rfl rfl (vp_in_nI (by omega) (by decide)) dX11_text_56 (fun H locs hP hD hS => ?_)
        rw [nI_clamp (by omega)] at hP hD
        have hP : va_P (dC, dI) vwCl [(h0, .inr (11, [.ref st, .int 0, .int 0, .ref rp, .int 0, .int 0, .int 0, .int 0, .int (-1), .int (-1), .ref tp, .int 0, .int 0, .int 0, .int 0, .int 0, .int 0, .int 0, .int 0, .ref cu, .ref lt, .ref od, .ref th, .ref be, .ref ln, .int 0, .ref ma, .int 0, .ref ah, .ref bh, .ref ik, .ref la, .ref lg, .ref ce, .int 0])), (rp, .inl (G 0, 49, .inl (upd g j 0))), (st, .inl (G 0, 196, .inl (fun _ => 0))), (ik, .inl (G 2, 2, .inl (fun _ => 0)))] H := hP
        have hD : va_D A [(h0, .inr (11, [.ref st, .int 0, .int 0, .ref rp, .int 0, .int 0, .int 0, .int 0, .int (-1), .int (-1), .ref tp, .int 0, .int 0, .int 0, .int 0, .int 0, .int 0, .int 0, .int 0, .ref cu, .ref lt, .ref od, .ref th, .ref be, .ref ln, .int 0, .ref ma, .int 0, .ref ah, .ref bh, .ref ik, .ref la, .ref lg, .ref ce, .int 0])), (rp, .inl (G 0, 49, .inl (upd g j 0))), (st, .inl (G 0, 196, .inl (fun _ => 0))), (ik, .inl (G 2, 2, .inl (fun _ => 0)))] := hD
        refine lv_iinc (v := nI (j + 1)) (lv' := [(2, .int (nI (j + 1))), (1, .int 0), (0, .ref h0)]) hx hb dX11_text_57 hl (k := 0) rfl (by rw [show Int32.ofInt 1 = nI 1 from by decide]; exact nI_add _ _) (by decide) rfl (fun ls hl => ?_)
        refine lv_goto (tgt := 44) hx hb dX11_text_60 (by decide) ?_
        exact ih44 ((j + 1)) (by omega) (by omega) (upd g j 0) _ _ hP hD hS ls (lv_sub hl [0, 1, 2] rfl)
  exact loop44 (49 + 1) 0 (by omega) (by omega) (fun _ => 0) _ _ hP hD hS ls (lv_sub hl [0, 1, 2] rfl)

set_option maxHeartbeats 4000000 in
set_option maxRecDepth 100000 in
theorem c_X11_fault (l : Launch) (dC : Nat → ClassId) (dI : Nat → Nat → Nat) (G : Nat → ClassId) (sz : Nat) (h0 st rp tp cu lt od th be ln ma ah bh ik la lg ce : Nat)    : Met l yX11_fault (Cond.code yX11_fault cX11_fault 1 (some .int) :: GT) ({ frames := 0, cells := 0, slots := 0, locals := 0 } : Room) (PcW [.ref h0] dC dI G [(h0, .inr (11, [.ref st, .int 0, .int 0, .ref rp, .int 0, .int 0, .int 0, .int 0, .int 0, .int 0, .ref tp, .int 0, .int 0, .int 0, .int 0, .int 0, .int 0, .int 0, .int 0, .ref cu, .ref lt, .ref od, .ref th, .ref be, .ref ln, .int 0, .ref ma, .int 0, .ref ah, .ref bh, .ref ik, .ref la, .ref lg, .ref ce, .int 0]))] sz) (va_Qi (fun (r : Int32) (u : Unit) => match u with | _ => (r = 0) ∧ True) (fun _ _ => True) (va_A [(h0, .inr (11, [.ref st, .int 0, .int 0, .ref rp, .int 0, .int 0, .int 0, .int 0, .int 0, .int 0, .ref tp, .int 0, .int 0, .int 0, .int 0, .int 0, .int 0, .int 0, .int 0, .ref cu, .ref lt, .ref od, .ref th, .ref be, .ref ln, .int 0, .ref ma, .int 0, .ref ah, .ref bh, .ref ik, .ref la, .ref lg, .ref ce, .int 0]))] sz)) 0 0 (va_A [(h0, .inr (11, [.ref st, .int 0, .int 0, .ref rp, .int 0, .int 0, .int 0, .int 0, .int 0, .int 0, .ref tp, .int 0, .int 0, .int 0, .int 0, .int 0, .int 0, .int 0, .int 0, .ref cu, .ref lt, .ref od, .ref th, .ref be, .ref ln, .int 0, .ref ma, .int 0, .ref ah, .ref bh, .ref ik, .ref la, .ref lg, .ref ce, .int 0]))] sz) := by
  refine Met.ofW (cc := cX11_fault) (maxL := 1) (ret := (some .int)) (by decide) rfl ?_
  intro p e s m args below meth c s₁ B hml hv
  obtain ⟨rfl, hsz, hP, hK, hD0⟩ := hv
  have hx := B.exec
  have hb := B.bytes
  have hr := B.returns
  have hg : ∀ w ∈ GT, w.before ([.ref h0] : List Value).toArray s = true := fun w h => atoms_spec (ws := Cond.code yX11_fault cX11_fault 1 (some .int) :: GT) B.pre w (List.mem_cons_of_mem _ h)
  have hown : s.vm.findClass RX11 = some m.cls := findClass_of_methodNamed B.named
  have hlocks := B.notSynchronized
  subst hsz
  have hD := hD0.self (sz := s.heap.size)
  generalize hAe : va_A [(h0, .inr (11, [.ref st, .int 0, .int 0, .ref rp, .int 0, .int 0, .int 0, .int 0, .int 0, .int 0, .ref tp, .int 0, .int 0, .int 0, .int 0, .int 0, .int 0, .int 0, .int 0, .ref cu, .ref lt, .ref od, .ref th, .ref be, .ref ln, .int 0, .ref ma, .int 0, .ref ah, .ref bh, .ref ik, .ref la, .ref lg, .ref ce, .int 0]))] s.heap.size = A at hD ⊢
  have hA : ∀ q : Nat, s.heap.size ≤ q → A q := fun q h => by rw [← hAe]; exact Or.inr h
  have hS : va_S A s.heap s.heap [] := va_S.rf
  have hl := lv_entry ([.ref h0]) (n := 1) (Nat.le_of_ble_eq_true rfl)
  rw [lg_entry_eq]
  generalize (lg_sl ([.ref h0]) ++ List.replicate (1 - (lg_sl ([.ref h0])).length) Slot.unset).toArray = ls at hl ⊢
  have hl : lv_has ls 1 [(0, .ref h0)] := hl
  refine lv_aload_n hx hb dX11_fault_0 rfl (lv_at hl 0 rfl) ?_
  refine va_get (D := (dC, dI)) (ci := 11) (v := .int 0) (C := RX11) (T := TX11) (N := 35) hx hb hg inG11 hown hK.1 hP 0 rfl rfl 12 (by decide) (hg _ wt_890) (fun _ h9 => h9) rfl dX11_fault_1 ?_
  have hpost : (0 : Int32) = 0 := by
    first | rfl | ((repeat' split) <;> first | rfl | omega)
  refine W.widen (k := 0) (n := 0) (by omega) (by omega) ?_
  exact W.iret (v := 0) hx hb hr (fun t ht hW => ⟨⟨0, (), rfl, ⟨hpost, trivial⟩, trivial⟩, hS.F ht⟩) hS.2.2 dX11_fault_4

set_option maxHeartbeats 4000000 in
set_option maxRecDepth 100000 in
theorem c_X11_rule (l : Launch) (dC : Nat → ClassId) (dI : Nat → Nat → Nat) (G : Nat → ClassId) (sz : Nat) (h0 st rp tp cu lt od th be ln ma ah bh ik la lg ce : Nat) (what : Int32)    : Met l yX11_rule (Cond.code yX11_rule cX11_rule 2 (some .int) :: GT) ({ frames := 1, cells := 0, slots := 0, locals := 20 } : Room) (PcW [.ref h0, .int what] dC dI G [(h0, .inr (11, [.ref st, .int 0, .int 0, .ref rp, .int 0, .int 0, .int 0, .int 0, .int 0, .int 0, .ref tp, .int 0, .int 0, .int 0, .int 0, .int 0, .int 0, .int 0, .int 0, .ref cu, .ref lt, .ref od, .ref th, .ref be, .ref ln, .int 0, .ref ma, .int 0, .ref ah, .ref bh, .ref ik, .ref la, .ref lg, .ref ce, .int 0])), (st, .inl (G 0, 196, .inl (fun _ => 0)))] sz) (va_Qi (fun (r : Int32) (u : Unit) => match u with | _ => (r = if what.toInt = 0 then 0 else if what.toInt = 1 then 0 else if what.toInt = 2 then 5 else -1) ∧ True) (fun _ _ => True) (va_A [(h0, .inr (11, [.ref st, .int 0, .int 0, .ref rp, .int 0, .int 0, .int 0, .int 0, .int 0, .int 0, .ref tp, .int 0, .int 0, .int 0, .int 0, .int 0, .int 0, .int 0, .int 0, .ref cu, .ref lt, .ref od, .ref th, .ref be, .ref ln, .int 0, .ref ma, .int 0, .ref ah, .ref bh, .ref ik, .ref la, .ref lg, .ref ce, .int 0])), (st, .inl (G 0, 196, .inl (fun _ => 0)))] sz)) 0 0 (va_A [(h0, .inr (11, [.ref st, .int 0, .int 0, .ref rp, .int 0, .int 0, .int 0, .int 0, .int 0, .int 0, .ref tp, .int 0, .int 0, .int 0, .int 0, .int 0, .int 0, .int 0, .int 0, .ref cu, .ref lt, .ref od, .ref th, .ref be, .ref ln, .int 0, .ref ma, .int 0, .ref ah, .ref bh, .ref ik, .ref la, .ref lg, .ref ce, .int 0])), (st, .inl (G 0, 196, .inl (fun _ => 0)))] sz) := by
  refine Met.ofW (cc := cX11_rule) (maxL := 2) (ret := (some .int)) (by decide) rfl ?_
  intro p e s m args below meth c s₁ B hml hv
  obtain ⟨rfl, hsz, hP, hK, hD0⟩ := hv
  have hx := B.exec
  have hb := B.bytes
  have hr := B.returns
  have hg : ∀ w ∈ GT, w.before ([.ref h0, .int what] : List Value).toArray s = true := fun w h => atoms_spec (ws := Cond.code yX11_rule cX11_rule 2 (some .int) :: GT) B.pre w (List.mem_cons_of_mem _ h)
  have hown : s.vm.findClass RX11 = some m.cls := findClass_of_methodNamed B.named
  have hlocks := B.notSynchronized
  subst hsz
  have hD := hD0.self (sz := s.heap.size)
  generalize hAe : va_A [(h0, .inr (11, [.ref st, .int 0, .int 0, .ref rp, .int 0, .int 0, .int 0, .int 0, .int 0, .int 0, .ref tp, .int 0, .int 0, .int 0, .int 0, .int 0, .int 0, .int 0, .int 0, .ref cu, .ref lt, .ref od, .ref th, .ref be, .ref ln, .int 0, .ref ma, .int 0, .ref ah, .ref bh, .ref ik, .ref la, .ref lg, .ref ce, .int 0])), (st, .inl (G 0, 196, .inl (fun _ => 0)))] s.heap.size = A at hD ⊢
  have hA : ∀ q : Nat, s.heap.size ≤ q → A q := fun q h => by rw [← hAe]; exact Or.inr h
  have hS : va_S A s.heap s.heap [] := va_S.rf
  have hl := lv_entry ([.ref h0, .int what]) (n := 2) (Nat.le_of_ble_eq_true rfl)
  rw [lg_entry_eq]
  generalize (lg_sl ([.ref h0, .int what]) ++ List.replicate (2 - (lg_sl ([.ref h0, .int what])).length) Slot.unset).toArray = ls at hl ⊢
  have hl : lv_has ls 2 [(0, .ref h0), (1, .int what)] := hl
  refine lv_iload_n hx hb dX11_rule_0 rfl (lv_at hl 1 rfl) ?_
  refine lv_if_ne (tgt := 11) hx hb dX11_rule_1 (by decide) (fun c1 => ?_) (fun c1 => ?_)
  · skip
    refine lv_iload_n hx hb dX11_rule_11 rfl (lv_at hl 1 rfl) ?_
    refine lv_iconst (v := 1) hx hb dX11_rule_12 (by decide) ?_
    refine lv_icmp_ne (tgt := 23) hx hb dX11_rule_13 (by decide) (fun c2 => ?_) (fun c2 => ?_)
    · skip
      refine lv_iload_n hx hb dX11_rule_23 rfl (lv_at hl 1 rfl) ?_
      refine lv_iconst (v := 2) hx hb dX11_rule_24 (by decide) ?_
      refine lv_icmp_ne (tgt := 35) hx hb dX11_rule_25 (by decide) (fun c3 => ?_) (fun c3 => ?_)
      · skip
        refine lv_iconst (v := (-1)) hx hb dX11_rule_35 (by decide) ?_
        have hpost : ((-1) : Int32) = if what.toInt = 0 then 0 else if what.toInt = 1 then 0 else if what.toInt = 2 then 5 else -1 := by
          have t_c1 := neI c1
          have t_c2 := neI c2
          have t_c3 := neI c3
          have : (0 : Int32).toInt = 0 := (by decide)
          have : (1 : Int32).toInt = 1 := (by decide)
          have : (2 : Int32).toInt = 2 := (by decide)
          first | rfl | ((repeat' split) <;> first | rfl | omega)
        refine W.widen (k := 0) (n := 0) (by omega) (by omega) ?_
        exact W.iret (v := (-1)) hx hb hr (fun t ht hW => ⟨⟨(-1), (), rfl, ⟨hpost, trivial⟩, trivial⟩, hS.F ht⟩) hS.2.2 dX11_rule_36
      · skip
        refine lv_aload_n hx hb dX11_rule_28 rfl (lv_at hl 0 rfl) ?_
        have hPc := hP.sub (ws' := [(h0, .inr (11, [.ref st, .int 0, .int 0, .ref rp, .int 0, .int 0, .int 0, .int 0, .int 0, .int 0, .ref tp, .int 0, .int 0, .int 0, .int 0, .int 0, .int 0, .int 0, .int 0, .ref cu, .ref lt, .ref od, .ref th, .ref be, .ref ln, .int 0, .ref ma, .int 0, .ref ah, .ref bh, .ref ik, .ref la, .ref lg, .ref ce, .int 0])), (st, .inl (G 0, 196, .inl (fun _ => 0)))]) [0, 1] rfl
        refine va_calli (va_runV (As := []) (rest := []) ⟨hx, hb, hml, hown, hg⟩ (c_X11_startNow l dC dI G _ h0 st rp tp cu lt od th be ln ma ah bh ik la lg ce ) (kwV hg mfX11_startNow wt_1044 ⟨Nat.le_of_ble_eq_true rfl, Nat.le_of_ble_eq_true rfl⟩) (preVR hK hPc (ci := 11) rfl rfl) rfl rfl hl.1 rfl (lv_room (Nat.le_of_ble_eq_true rfl)) dX11_rule_29 ⟨Nat.le_of_ble_eq_true rfl, Nat.le_of_ble_eq_true rfl⟩) hS (fun q h1 h2 => absurd h2 (Nat.not_le.mpr h1)) (fun q h => hA q (Nat.le_trans hS.1 h)) (fun r4 ur4 t H1 locs ht hvm w5 hB hz1 hk1 hS => ?_)
        have hP := keepR hP hk1
        obtain ⟨w5, w5x⟩ := w5
        subst w5
        refine lv_goto (tgt := 36) hx hb dX11_rule_32 (by decide) ?_
        have hpost : (5 : Int32) = if what.toInt = 0 then 0 else if what.toInt = 1 then 0 else if what.toInt = 2 then 5 else -1 := by
          have t_c1 := neI c1
          have t_c2 := neI c2
          have t_c3 := eqI c3
          have : (0 : Int32).toInt = 0 := (by decide)
          have : (1 : Int32).toInt = 1 := (by decide)
          have : (2 : Int32).toInt = 2 := (by decide)
          first | rfl | ((repeat' split) <;> first | rfl | omega)
        refine W.widen (k := 0) (n := 0) (by omega) (by omega) ?_
        exact W.iret (v := 5) hx hb hr (fun t ht hW => ⟨⟨5, (), rfl, ⟨hpost, trivial⟩, trivial⟩, hS.F ht⟩) hS.2.2 dX11_rule_36
    · skip
      refine lv_aload_n hx hb dX11_rule_16 rfl (lv_at hl 0 rfl) ?_
      refine va_get (D := (dC, dI)) (ci := 11) (v := .int 0) (C := RX11) (T := TX11) (N := 35) hx hb hg inG11 hown hK.1 hP 0 rfl rfl 2 (by decide) (hg _ wt_880) (fun _ h9 => h9) rfl dX11_rule_17 ?_
      refine lv_goto (tgt := 36) hx hb dX11_rule_20 (by decide) ?_
      have hpost : (0 : Int32) = if what.toInt = 0 then 0 else if what.toInt = 1 then 0 else if what.toInt = 2 then 5 else -1 := by
        have t_c1 := neI c1
        have t_c2 := eqI c2
        have : (0 : Int32).toInt = 0 := (by decide)
        have : (1 : Int32).toInt = 1 := (by decide)
        first | rfl | ((repeat' split) <;> first | rfl | omega)
      refine W.widen (k := 0) (n := 0) (by omega) (by omega) ?_
      exact W.iret (v := 0) hx hb hr (fun t ht hW => ⟨⟨0, (), rfl, ⟨hpost, trivial⟩, trivial⟩, hS.F ht⟩) hS.2.2 dX11_rule_36
  · skip
    refine lv_aload_n hx hb dX11_rule_4 rfl (lv_at hl 0 rfl) ?_
    refine va_get (D := (dC, dI)) (ci := 11) (v := .int 0) (C := RX11) (T := TX11) (N := 35) hx hb hg inG11 hown hK.1 hP 0 rfl rfl 1 (by decide) (hg _ wt_879) (fun _ h9 => h9) rfl dX11_rule_5 ?_
    refine lv_goto (tgt := 36) hx hb dX11_rule_8 (by decide) ?_
    have hpost : (0 : Int32) = if what.toInt = 0 then 0 else if what.toInt = 1 then 0 else if what.toInt = 2 then 5 else -1 := by
      have t_c1 := eqI c1
      have : (0 : Int32).toInt = 0 := (by decide)
      first | rfl | ((repeat' split) <;> first | rfl | omega)
    refine W.widen (k := 0) (n := 0) (by omega) (by omega) ?_
    exact W.iret (v := 0) hx hb hr (fun t ht hW => ⟨⟨0, (), rfl, ⟨hpost, trivial⟩, trivial⟩, hS.F ht⟩) hS.2.2 dX11_rule_36

set_option maxHeartbeats 4000000 in
set_option maxRecDepth 100000 in
theorem c_X11_stretch (l : Launch) (dC : Nat → ClassId) (dI : Nat → Nat → Nat) (G : Nat → ClassId) (sz : Nat) (h0 st rp tp cu lt od th be ln ma ah bh ik la lg ce : Nat) (i what : Int32)    : Met l yX11_stretch (Cond.code yX11_stretch cX11_stretch 3 (some .int) :: GT) ({ frames := 2, cells := 0, slots := 0, locals := 46 } : Room) (PcW [.ref h0, .int i, .int what] dC dI G [(h0, .inr (11, [.ref st, .int 0, .int 0, .ref rp, .int 0, .int 0, .int 0, .int 0, .int 0, .int 0, .ref tp, .int 0, .int 0, .int 0, .int 0, .int 0, .int 0, .int 0, .int 0, .ref cu, .ref lt, .ref od, .ref th, .ref be, .ref ln, .int 0, .ref ma, .int 0, .ref ah, .ref bh, .ref ik, .ref la, .ref lg, .ref ce, .int 0]))] sz) (va_Qi (fun (r : Int32) (u : Unit) => match u with | _ => (r = -1) ∧ True) (fun _ _ => True) (va_A [(h0, .inr (11, [.ref st, .int 0, .int 0, .ref rp, .int 0, .int 0, .int 0, .int 0, .int 0, .int 0, .ref tp, .int 0, .int 0, .int 0, .int 0, .int 0, .int 0, .int 0, .int 0, .ref cu, .ref lt, .ref od, .ref th, .ref be, .ref ln, .int 0, .ref ma, .int 0, .ref ah, .ref bh, .ref ik, .ref la, .ref lg, .ref ce, .int 0]))] sz)) 0 0 (va_A [(h0, .inr (11, [.ref st, .int 0, .int 0, .ref rp, .int 0, .int 0, .int 0, .int 0, .int 0, .int 0, .ref tp, .int 0, .int 0, .int 0, .int 0, .int 0, .int 0, .int 0, .int 0, .ref cu, .ref lt, .ref od, .ref th, .ref be, .ref ln, .int 0, .ref ma, .int 0, .ref ah, .ref bh, .ref ik, .ref la, .ref lg, .ref ce, .int 0]))] sz) := by
  refine Met.ofW (cc := cX11_stretch) (maxL := 3) (ret := (some .int)) (by decide) rfl ?_
  intro p e s m args below meth c s₁ B hml hv
  obtain ⟨rfl, hsz, hP, hK, hD0⟩ := hv
  have hx := B.exec
  have hb := B.bytes
  have hr := B.returns
  have hg : ∀ w ∈ GT, w.before ([.ref h0, .int i, .int what] : List Value).toArray s = true := fun w h => atoms_spec (ws := Cond.code yX11_stretch cX11_stretch 3 (some .int) :: GT) B.pre w (List.mem_cons_of_mem _ h)
  have hown : s.vm.findClass RX11 = some m.cls := findClass_of_methodNamed B.named
  have hlocks := B.notSynchronized
  subst hsz
  have hD := hD0.self (sz := s.heap.size)
  generalize hAe : va_A [(h0, .inr (11, [.ref st, .int 0, .int 0, .ref rp, .int 0, .int 0, .int 0, .int 0, .int 0, .int 0, .ref tp, .int 0, .int 0, .int 0, .int 0, .int 0, .int 0, .int 0, .int 0, .ref cu, .ref lt, .ref od, .ref th, .ref be, .ref ln, .int 0, .ref ma, .int 0, .ref ah, .ref bh, .ref ik, .ref la, .ref lg, .ref ce, .int 0]))] s.heap.size = A at hD ⊢
  have hA : ∀ q : Nat, s.heap.size ≤ q → A q := fun q h => by rw [← hAe]; exact Or.inr h
  have hS : va_S A s.heap s.heap [] := va_S.rf
  have hl := lv_entry ([.ref h0, .int i, .int what]) (n := 3) (Nat.le_of_ble_eq_true rfl)
  rw [lg_entry_eq]
  generalize (lg_sl ([.ref h0, .int i, .int what]) ++ List.replicate (3 - (lg_sl ([.ref h0, .int i, .int what])).length) Slot.unset).toArray = ls at hl ⊢
  have hl : lv_has ls 3 [(0, .ref h0), (1, .int i), (2, .int what)] := hl
  refine lv_aload_n hx hb dX11_stretch_0 rfl (lv_at hl 0 rfl) ?_
  refine lv_iload_n hx hb dX11_stretch_1 rfl (lv_at hl 1 rfl) ?_
  have hPc := hP.sub (ws' := [(h0, .inr (11, [.ref st, .int 0, .int 0, .ref rp, .int 0, .int 0, .int 0, .int 0, .int 0, .int 0, .ref tp, .int 0, .int 0, .int 0, .int 0, .int 0, .int 0, .int 0, .int 0, .ref cu, .ref lt, .ref od, .ref th, .ref be, .ref ln, .int 0, .ref ma, .int 0, .ref ah, .ref bh, .ref ik, .ref la, .ref lg, .ref ce, .int 0]))]) [0] rfl
  refine va_calli (va_runV (As := [.int i]) (rest := []) ⟨hx, hb, hml, hown, hg⟩ (c_X11_isStretch l dC dI G _ h0 st rp tp cu lt od th be ln ma ah bh ik la lg ce i ) (kwV hg mfX11_isStretch wt_1052 ⟨Nat.le_of_ble_eq_true rfl, Nat.le_of_ble_eq_true rfl⟩) (preVR hK hPc (ci := 11) rfl rfl) rfl rfl hl.1 rfl (lv_room (Nat.le_of_ble_eq_true rfl)) dX11_stretch_2 ⟨Nat.le_of_ble_eq_true rfl, Nat.le_of_ble_eq_true rfl⟩) hS (fun q h1 h2 => absurd h2 (Nat.not_le.mpr h1)) (fun q h => hA q (Nat.le_trans hS.1 h)) (fun r1 ur1 t H1 locs ht hvm w2 hB hz1 hk1 hS => ?_)
  have hP := keepR hP hk1
  obtain ⟨w2, w2x⟩ := w2
  subst w2
  refine lv_if_eq (tgt := 20) hx hb dX11_stretch_5 (by decide) (fun c3 => ?_) (fun c3 => ?_)
  · skip
    refine lv_iconst (v := (-1)) hx hb dX11_stretch_20 (by decide) ?_
    have hpost : ((-1) : Int32) = -1 := by
      have t_c3 := eqI c3
      have : (0 : Int32).toInt = 0 := (by decide)
      first | rfl | ((repeat' split) <;> first | rfl | omega)
    refine W.widen (k := 0) (n := 0) (by omega) (by omega) ?_
    exact W.iret (v := (-1)) hx hb hr (fun t ht hW => ⟨⟨(-1), (), rfl, ⟨hpost, trivial⟩, trivial⟩, hS.F ht⟩) hS.2.2 dX11_stretch_21
  · skip
    exact absurd c3 (by decide)

set_option maxHeartbeats 4000000 in
set_option maxRecDepth 100000 in
theorem c_X11_bearer (l : Launch) (dC : Nat → ClassId) (dI : Nat → Nat → Nat) (G : Nat → ClassId) (sz : Nat) (h0 st rp tp cu lt od th be ln ma ah bh ik la lg ce : Nat) (i what : Int32)    : Met l yX11_bearer (Cond.code yX11_bearer cX11_bearer 3 (some .int) :: GT) ({ frames := 2, cells := 0, slots := 0, locals := 46 } : Room) (PcW [.ref h0, .int i, .int what] dC dI G [(h0, .inr (11, [.ref st, .int 0, .int 0, .ref rp, .int 0, .int 0, .int 0, .int 0, .int 0, .int 0, .ref tp, .int 0, .int 0, .int 0, .int 0, .int 0, .int 0, .int 0, .int 0, .ref cu, .ref lt, .ref od, .ref th, .ref be, .ref ln, .int 0, .ref ma, .int 0, .ref ah, .ref bh, .ref ik, .ref la, .ref lg, .ref ce, .int 0]))] sz) (va_Qi (fun (r : Int32) (u : Unit) => match u with | _ => (r = -1) ∧ True) (fun _ _ => True) (va_A [(h0, .inr (11, [.ref st, .int 0, .int 0, .ref rp, .int 0, .int 0, .int 0, .int 0, .int 0, .int 0, .ref tp, .int 0, .int 0, .int 0, .int 0, .int 0, .int 0, .int 0, .int 0, .ref cu, .ref lt, .ref od, .ref th, .ref be, .ref ln, .int 0, .ref ma, .int 0, .ref ah, .ref bh, .ref ik, .ref la, .ref lg, .ref ce, .int 0]))] sz)) 0 0 (va_A [(h0, .inr (11, [.ref st, .int 0, .int 0, .ref rp, .int 0, .int 0, .int 0, .int 0, .int 0, .int 0, .ref tp, .int 0, .int 0, .int 0, .int 0, .int 0, .int 0, .int 0, .int 0, .ref cu, .ref lt, .ref od, .ref th, .ref be, .ref ln, .int 0, .ref ma, .int 0, .ref ah, .ref bh, .ref ik, .ref la, .ref lg, .ref ce, .int 0]))] sz) := by
  refine Met.ofW (cc := cX11_bearer) (maxL := 3) (ret := (some .int)) (by decide) rfl ?_
  intro p e s m args below meth c s₁ B hml hv
  obtain ⟨rfl, hsz, hP, hK, hD0⟩ := hv
  have hx := B.exec
  have hb := B.bytes
  have hr := B.returns
  have hg : ∀ w ∈ GT, w.before ([.ref h0, .int i, .int what] : List Value).toArray s = true := fun w h => atoms_spec (ws := Cond.code yX11_bearer cX11_bearer 3 (some .int) :: GT) B.pre w (List.mem_cons_of_mem _ h)
  have hown : s.vm.findClass RX11 = some m.cls := findClass_of_methodNamed B.named
  have hlocks := B.notSynchronized
  subst hsz
  have hD := hD0.self (sz := s.heap.size)
  generalize hAe : va_A [(h0, .inr (11, [.ref st, .int 0, .int 0, .ref rp, .int 0, .int 0, .int 0, .int 0, .int 0, .int 0, .ref tp, .int 0, .int 0, .int 0, .int 0, .int 0, .int 0, .int 0, .int 0, .ref cu, .ref lt, .ref od, .ref th, .ref be, .ref ln, .int 0, .ref ma, .int 0, .ref ah, .ref bh, .ref ik, .ref la, .ref lg, .ref ce, .int 0]))] s.heap.size = A at hD ⊢
  have hA : ∀ q : Nat, s.heap.size ≤ q → A q := fun q h => by rw [← hAe]; exact Or.inr h
  have hS : va_S A s.heap s.heap [] := va_S.rf
  have hl := lv_entry ([.ref h0, .int i, .int what]) (n := 3) (Nat.le_of_ble_eq_true rfl)
  rw [lg_entry_eq]
  generalize (lg_sl ([.ref h0, .int i, .int what]) ++ List.replicate (3 - (lg_sl ([.ref h0, .int i, .int what])).length) Slot.unset).toArray = ls at hl ⊢
  have hl : lv_has ls 3 [(0, .ref h0), (1, .int i), (2, .int what)] := hl
  refine lv_aload_n hx hb dX11_bearer_0 rfl (lv_at hl 0 rfl) ?_
  refine lv_iload_n hx hb dX11_bearer_1 rfl (lv_at hl 1 rfl) ?_
  have hPc := hP.sub (ws' := [(h0, .inr (11, [.ref st, .int 0, .int 0, .ref rp, .int 0, .int 0, .int 0, .int 0, .int 0, .int 0, .ref tp, .int 0, .int 0, .int 0, .int 0, .int 0, .int 0, .int 0, .int 0, .ref cu, .ref lt, .ref od, .ref th, .ref be, .ref ln, .int 0, .ref ma, .int 0, .ref ah, .ref bh, .ref ik, .ref la, .ref lg, .ref ce, .int 0]))]) [0] rfl
  refine va_calli (va_runV (As := [.int i]) (rest := []) ⟨hx, hb, hml, hown, hg⟩ (c_X11_isBearer l dC dI G _ h0 st rp tp cu lt od th be ln ma ah bh ik la lg ce i ) (kwV hg mfX11_isBearer wt_1061 ⟨Nat.le_of_ble_eq_true rfl, Nat.le_of_ble_eq_true rfl⟩) (preVR hK hPc (ci := 11) rfl rfl) rfl rfl hl.1 rfl (lv_room (Nat.le_of_ble_eq_true rfl)) dX11_bearer_2 ⟨Nat.le_of_ble_eq_true rfl, Nat.le_of_ble_eq_true rfl⟩) hS (fun q h1 h2 => absurd h2 (Nat.not_le.mpr h1)) (fun q h => hA q (Nat.le_trans hS.1 h)) (fun r1 ur1 t H1 locs ht hvm w2 hB hz1 hk1 hS => ?_)
  have hP := keepR hP hk1
  obtain ⟨w2, w2x⟩ := w2
  subst w2
  refine lv_if_eq (tgt := 36) hx hb dX11_bearer_5 (by decide) (fun c3 => ?_) (fun c3 => ?_)
  · skip
    refine lv_iconst (v := (-1)) hx hb dX11_bearer_36 (by decide) ?_
    have hpost : ((-1) : Int32) = -1 := by
      have t_c3 := eqI c3
      have : (0 : Int32).toInt = 0 := (by decide)
      first | rfl | ((repeat' split) <;> first | rfl | omega)
    refine W.widen (k := 0) (n := 0) (by omega) (by omega) ?_
    exact W.iret (v := (-1)) hx hb hr (fun t ht hW => ⟨⟨(-1), (), rfl, ⟨hpost, trivial⟩, trivial⟩, hS.F ht⟩) hS.2.2 dX11_bearer_37
  · skip
    exact absurd c3 (by decide)

set_option maxHeartbeats 4000000 in
set_option maxRecDepth 100000 in
theorem c_X11_start (l : Launch) (dC : Nat → ClassId) (dI : Nat → Nat → Nat) (G : Nat → ClassId) (sz : Nat) (h0 st rp tp cu lt od th be ln ma ah bh ik la lg ce : Nat) (v : Int32)    : Met l yX11_start (Cond.code yX11_start cX11_start 2 (some .int) :: GT) ({ frames := 1, cells := 0, slots := 0, locals := 25 } : Room) (PcW [.ref h0, .int v] dC dI G [(h0, .inr (11, [.ref st, .int 0, .int 0, .ref rp, .int 0, .int 0, .int 0, .int 0, .int 0, .int 0, .ref tp, .int 0, .int 0, .int 0, .int 0, .int 0, .int 0, .int 0, .int 0, .ref cu, .ref lt, .ref od, .ref th, .ref be, .ref ln, .int 0, .ref ma, .int 0, .ref ah, .ref bh, .ref ik, .ref la, .ref lg, .ref ce, .int 0])), (st, .inl (G 0, 196, .inl (fun _ => 0)))] sz) (va_Qi (fun (r : Int32) (u : Unit) => match u with | _ => (r = if 1 ≤ v.toInt ∧ v.toInt ≤ 9 then 5 else -1) ∧ True) (fun _ _ => True) (va_A [(h0, .inr (11, [.ref st, .int 0, .int 0, .ref rp, .int 0, .int 0, .int 0, .int 0, .int 0, .int 0, .ref tp, .int 0, .int 0, .int 0, .int 0, .int 0, .int 0, .int 0, .int 0, .ref cu, .ref lt, .ref od, .ref th, .ref be, .ref ln, .int 0, .ref ma, .int 0, .ref ah, .ref bh, .ref ik, .ref la, .ref lg, .ref ce, .int 0])), (st, .inl (G 0, 196, .inl (fun _ => 0)))] sz)) 0 0 (va_A [(h0, .inr (11, [.ref st, .int 0, .int 0, .ref rp, .int 0, .int 0, .int 0, .int 0, .int 0, .int 0, .ref tp, .int 0, .int 0, .int 0, .int 0, .int 0, .int 0, .int 0, .int 0, .ref cu, .ref lt, .ref od, .ref th, .ref be, .ref ln, .int 0, .ref ma, .int 0, .ref ah, .ref bh, .ref ik, .ref la, .ref lg, .ref ce, .int 0])), (st, .inl (G 0, 196, .inl (fun _ => 0)))] sz) := by
  refine Met.ofW (cc := cX11_start) (maxL := 2) (ret := (some .int)) (by decide) rfl ?_
  intro p e s m args below meth c s₁ B hml hv
  obtain ⟨rfl, hsz, hP, hK, hD0⟩ := hv
  have hx := B.exec
  have hb := B.bytes
  have hr := B.returns
  have hg : ∀ w ∈ GT, w.before ([.ref h0, .int v] : List Value).toArray s = true := fun w h => atoms_spec (ws := Cond.code yX11_start cX11_start 2 (some .int) :: GT) B.pre w (List.mem_cons_of_mem _ h)
  have hown : s.vm.findClass RX11 = some m.cls := findClass_of_methodNamed B.named
  have hlocks := B.notSynchronized
  subst hsz
  have hD := hD0.self (sz := s.heap.size)
  generalize hAe : va_A [(h0, .inr (11, [.ref st, .int 0, .int 0, .ref rp, .int 0, .int 0, .int 0, .int 0, .int 0, .int 0, .ref tp, .int 0, .int 0, .int 0, .int 0, .int 0, .int 0, .int 0, .int 0, .ref cu, .ref lt, .ref od, .ref th, .ref be, .ref ln, .int 0, .ref ma, .int 0, .ref ah, .ref bh, .ref ik, .ref la, .ref lg, .ref ce, .int 0])), (st, .inl (G 0, 196, .inl (fun _ => 0)))] s.heap.size = A at hD ⊢
  have hA : ∀ q : Nat, s.heap.size ≤ q → A q := fun q h => by rw [← hAe]; exact Or.inr h
  have hS : va_S A s.heap s.heap [] := va_S.rf
  have hl := lv_entry ([.ref h0, .int v]) (n := 2) (Nat.le_of_ble_eq_true rfl)
  rw [lg_entry_eq]
  generalize (lg_sl ([.ref h0, .int v]) ++ List.replicate (2 - (lg_sl ([.ref h0, .int v])).length) Slot.unset).toArray = ls at hl ⊢
  have hl : lv_has ls 2 [(0, .ref h0), (1, .int v)] := hl
  refine lv_iload_n hx hb dX11_start_0 rfl (lv_at hl 1 rfl) ?_
  refine lv_i2l (v := v.toInt64) hx hb dX11_start_1 rfl ?_
  refine lv_lconst (v := 1) hx hb dX11_start_2 (by decide) ?_
  refine lv_ldc2 (v := 9) hx hb hown (hg _ wt_1069) dX11_start_3 ?_
  have hPc := hP.sub (ws' := []) [] rfl
  refine va_calli (va_runS (As := [.long v.toInt64, .long 1, .long 9]) (rest := []) ⟨hx, hb, hml, hown, hg⟩ (c_X11_in l dC dI G _ v.toInt64 1 9 ) (kwS hg mfX11_in wt_992 ⟨Nat.le_of_ble_eq_true rfl, Nat.le_of_ble_eq_true rfl⟩) (preSR hK hPc) rfl rfl hl.1 rfl (lv_room (Nat.le_of_ble_eq_true rfl)) dX11_start_6 ⟨Nat.le_of_ble_eq_true rfl, Nat.le_of_ble_eq_true rfl⟩) hS (fun q h1 h2 => absurd h2 (Nat.not_le.mpr h1)) (fun q h => hA q (Nat.le_trans hS.1 h)) (fun r1 ur1 t H1 locs ht hvm w2 hB hz1 hk1 hS => ?_)
  have hP := keepR hP hk1
  obtain ⟨w2, w2x⟩ := w2
  try simp only [l_ii, show (1 : Int64).toInt = 1 from by decide, show (9 : Int64).toInt = 9 from by decide] at w2
  subst w2
  refine lv_if_ne (tgt := 14) hx hb dX11_start_9 (by decide) (fun c3 => ?_) (fun c3 => ?_)
  · skip
    have b4 := if10_p c3
    refine lv_iconst (v := 5) hx hb dX11_start_14 (by decide) ?_
    refine lv_aload_n hx hb dX11_start_15 rfl (lv_at hl 0 rfl) ?_
    refine lv_iconst (v := 1) hx hb dX11_start_16 (by decide) ?_
    refine lv_bipush (v := 48) hx hb dX11_start_17 (by decide) ?_
    refine lv_iload_n hx hb dX11_start_19 rfl (lv_at hl 1 rfl) ?_
    refine lv_iconst (v := 5) hx hb dX11_start_20 (by decide) ?_
    refine lv_isub hx hb dX11_start_21 ?_
    have hPc := hP.sub (ws' := [(h0, .inr (11, [.ref st, .int 0, .int 0, .ref rp, .int 0, .int 0, .int 0, .int 0, .int 0, .int 0, .ref tp, .int 0, .int 0, .int 0, .int 0, .int 0, .int 0, .int 0, .int 0, .ref cu, .ref lt, .ref od, .ref th, .ref be, .ref ln, .int 0, .ref ma, .int 0, .ref ah, .ref bh, .ref ik, .ref la, .ref lg, .ref ce, .int 0])), (st, .inl (G 0, 196, .inl (fun _ => 0)))]) [0, 1] rfl
    have hDc := hD.sub (ws' := [(h0, .inr (11, [.ref st, .int 0, .int 0, .ref rp, .int 0, .int 0, .int 0, .int 0, .int 0, .int 0, .ref tp, .int 0, .int 0, .int 0, .int 0, .int 0, .int 0, .int 0, .int 0, .ref cu, .ref lt, .ref od, .ref th, .ref be, .ref ln, .int 0, .ref ma, .int 0, .ref ah, .ref bh, .ref ik, .ref la, .ref lg, .ref ce, .int 0])), (st, .inl (G 0, 196, .inl (fun _ => 0)))]) [0, 1] (by decide) rfl
    have hFc := va_free (wc := [(h0, .inr (11, [.ref st, .int 0, .int 0, .ref rp, .int 0, .int 0, .int 0, .int 0, .int 0, .int 0, .ref tp, .int 0, .int 0, .int 0, .int 0, .int 0, .int 0, .int 0, .int 0, .ref cu, .ref lt, .ref od, .ref th, .ref be, .ref ln, .int 0, .ref ma, .int 0, .ref ah, .ref bh, .ref ik, .ref la, .ref lg, .ref ce, .int 0])), (st, .inl (G 0, 196, .inl (fun _ => 0)))]) hD hS hA [0, 1] rfl
    refine va_calli (va_runV (As := [.int 1, .int 48, .int (v - 5)]) (rest := [.int 5]) ⟨hx, hb, hml, hown, hg⟩ (c_X11_setsStart l dC dI G _ h0 st rp tp cu lt od th be ln ma ah bh ik la lg ce (v - 5) ) (kwV hg mfX11_sets wt_1070 ⟨Nat.le_of_ble_eq_true rfl, Nat.le_of_ble_eq_true rfl⟩) (preVW hK hPc hDc (ci := 11) rfl rfl) rfl rfl hl.1 rfl (lv_room (Nat.le_of_ble_eq_true rfl)) dX11_start_22 ⟨Nat.le_of_ble_eq_true rfl, Nat.le_of_ble_eq_true rfl⟩) hS (fun q _ h => hFc q h) hFc (fun r5 ur5 t H1 locs ht hvm w6 hB hz1 hk1 hS => ?_)
    obtain ⟨hP1, hD1⟩ := hB
    rw [ht] at hP1
    obtain ⟨hP, hD⟩ := va_join (wr := []) (w1 := []) hP hD [0, 1] [] rfl rfl (by decide) (by decide) hk1 hFc hP1 hD1
    generalize H1 = H at hP hS ⊢
    have hP : va_P (dC, dI) vwCl [] H := hP
    have hD : va_D A [] := hD
    obtain ⟨w6, w6x⟩ := w6
    subst w6
    refine lv_iadd hx hb dX11_start_25 ?_
    refine lv_cg (y := 5) (by decide) ?_
    have hpost : (5 : Int32) = if 1 ≤ v.toInt ∧ v.toInt ≤ 9 then 5 else -1 := by
      have t_b4 := b4
      first | rfl | ((repeat' split) <;> first | rfl | omega)
    refine W.widen (k := 0) (n := 0) (by omega) (by omega) ?_
    exact W.iret (v := 5) hx hb hr (fun t ht hW => ⟨⟨5, (), rfl, ⟨hpost, trivial⟩, trivial⟩, hS.F ht⟩) hS.2.2 dX11_start_26
  · skip
    have b7 := if10_n c3
    refine lv_iconst (v := (-1)) hx hb dX11_start_12 (by decide) ?_
    have hpost : ((-1) : Int32) = if 1 ≤ v.toInt ∧ v.toInt ≤ 9 then 5 else -1 := by
      have t_b7 := b7
      first | rfl | ((repeat' split) <;> first | rfl | omega)
    refine W.widen (k := 0) (n := 0) (by omega) (by omega) ?_
    exact W.iret (v := (-1)) hx hb hr (fun t ht hW => ⟨⟨(-1), (), rfl, ⟨hpost, trivial⟩, trivial⟩, hS.F ht⟩) hS.2.2 dX11_start_13

set_option maxHeartbeats 4000000 in
set_option maxRecDepth 100000 in
theorem c_X11_noise (l : Launch) (dC : Nat → ClassId) (dI : Nat → Nat → Nat) (G : Nat → ClassId) (sz : Nat) (h0 st rp tp cu lt od th be ln ma ah bh ik la lg ce : Nat) (i v : Int32)    : Met l yX11_noise (Cond.code yX11_noise cX11_noise 3 (some .int) :: GT) ({ frames := 2, cells := 0, slots := 0, locals := 46 } : Room) (PcW [.ref h0, .int i, .int v] dC dI G [(h0, .inr (11, [.ref st, .int 0, .int 0, .ref rp, .int 0, .int 0, .int 0, .int 0, .int 0, .int 0, .ref tp, .int 0, .int 0, .int 0, .int 0, .int 0, .int 0, .int 0, .int 0, .ref cu, .ref lt, .ref od, .ref th, .ref be, .ref ln, .int 0, .ref ma, .int 0, .ref ah, .ref bh, .ref ik, .ref la, .ref lg, .ref ce, .int 0]))] sz) (va_Qi (fun (r : Int32) (u : Unit) => match u with | _ => (r = -1) ∧ True) (fun _ _ => True) (va_A [(h0, .inr (11, [.ref st, .int 0, .int 0, .ref rp, .int 0, .int 0, .int 0, .int 0, .int 0, .int 0, .ref tp, .int 0, .int 0, .int 0, .int 0, .int 0, .int 0, .int 0, .int 0, .ref cu, .ref lt, .ref od, .ref th, .ref be, .ref ln, .int 0, .ref ma, .int 0, .ref ah, .ref bh, .ref ik, .ref la, .ref lg, .ref ce, .int 0]))] sz)) 0 0 (va_A [(h0, .inr (11, [.ref st, .int 0, .int 0, .ref rp, .int 0, .int 0, .int 0, .int 0, .int 0, .int 0, .ref tp, .int 0, .int 0, .int 0, .int 0, .int 0, .int 0, .int 0, .int 0, .ref cu, .ref lt, .ref od, .ref th, .ref be, .ref ln, .int 0, .ref ma, .int 0, .ref ah, .ref bh, .ref ik, .ref la, .ref lg, .ref ce, .int 0]))] sz) := by
  refine Met.ofW (cc := cX11_noise) (maxL := 3) (ret := (some .int)) (by decide) rfl ?_
  intro p e s m args below meth c s₁ B hml hv
  obtain ⟨rfl, hsz, hP, hK, hD0⟩ := hv
  have hx := B.exec
  have hb := B.bytes
  have hr := B.returns
  have hg : ∀ w ∈ GT, w.before ([.ref h0, .int i, .int v] : List Value).toArray s = true := fun w h => atoms_spec (ws := Cond.code yX11_noise cX11_noise 3 (some .int) :: GT) B.pre w (List.mem_cons_of_mem _ h)
  have hown : s.vm.findClass RX11 = some m.cls := findClass_of_methodNamed B.named
  have hlocks := B.notSynchronized
  subst hsz
  have hD := hD0.self (sz := s.heap.size)
  generalize hAe : va_A [(h0, .inr (11, [.ref st, .int 0, .int 0, .ref rp, .int 0, .int 0, .int 0, .int 0, .int 0, .int 0, .ref tp, .int 0, .int 0, .int 0, .int 0, .int 0, .int 0, .int 0, .int 0, .ref cu, .ref lt, .ref od, .ref th, .ref be, .ref ln, .int 0, .ref ma, .int 0, .ref ah, .ref bh, .ref ik, .ref la, .ref lg, .ref ce, .int 0]))] s.heap.size = A at hD ⊢
  have hA : ∀ q : Nat, s.heap.size ≤ q → A q := fun q h => by rw [← hAe]; exact Or.inr h
  have hS : va_S A s.heap s.heap [] := va_S.rf
  have hl := lv_entry ([.ref h0, .int i, .int v]) (n := 3) (Nat.le_of_ble_eq_true rfl)
  rw [lg_entry_eq]
  generalize (lg_sl ([.ref h0, .int i, .int v]) ++ List.replicate (3 - (lg_sl ([.ref h0, .int i, .int v])).length) Slot.unset).toArray = ls at hl ⊢
  have hl : lv_has ls 3 [(0, .ref h0), (1, .int i), (2, .int v)] := hl
  refine lv_aload_n hx hb dX11_noise_0 rfl (lv_at hl 0 rfl) ?_
  refine lv_aload_n hx hb dX11_noise_1 rfl (lv_at hl 0 rfl) ?_
  refine lv_iload_n hx hb dX11_noise_2 rfl (lv_at hl 1 rfl) ?_
  have hPc := hP.sub (ws' := [(h0, .inr (11, [.ref st, .int 0, .int 0, .ref rp, .int 0, .int 0, .int 0, .int 0, .int 0, .int 0, .ref tp, .int 0, .int 0, .int 0, .int 0, .int 0, .int 0, .int 0, .int 0, .ref cu, .ref lt, .ref od, .ref th, .ref be, .ref ln, .int 0, .ref ma, .int 0, .ref ah, .ref bh, .ref ik, .ref la, .ref lg, .ref ce, .int 0]))]) [0] rfl
  refine va_calli (va_runV (As := [.int i]) (rest := [.ref h0]) ⟨hx, hb, hml, hown, hg⟩ (c_X11_isStretch l dC dI G _ h0 st rp tp cu lt od th be ln ma ah bh ik la lg ce i ) (kwV hg mfX11_isStretch wt_1052 ⟨Nat.le_of_ble_eq_true rfl, Nat.le_of_ble_eq_true rfl⟩) (preVR hK hPc (ci := 11) rfl rfl) rfl rfl hl.1 rfl (lv_room (Nat.le_of_ble_eq_true rfl)) dX11_noise_3 ⟨Nat.le_of_ble_eq_true rfl, Nat.le_of_ble_eq_true rfl⟩) hS (fun q h1 h2 => absurd h2 (Nat.not_le.mpr h1)) (fun q h => hA q (Nat.le_trans hS.1 h)) (fun r1 ur1 t H1 locs ht hvm w2 hB hz1 hk1 hS => ?_)
  have hP := keepR hP hk1
  obtain ⟨w2, w2x⟩ := w2
  subst w2
  refine lv_if_eq (tgt := 25) hx hb dX11_noise_6 (by decide) (fun c3 => ?_) (fun c3 => ?_)
  · skip
    refine lv_iconst (v := 0) hx hb dX11_noise_25 (by decide) ?_
    refine lv_iconst (v := 2) hx hb dX11_noise_26 (by decide) ?_
    refine lv_iload_n hx hb dX11_noise_27 rfl (lv_at hl 1 rfl) ?_
    refine lv_imul hx hb dX11_noise_28 ?_
    refine lv_iload_n hx hb dX11_noise_29 rfl (lv_at hl 2 rfl) ?_
    have hPc := hP.sub (ws' := [(h0, .inr (11, [.ref st, .int 0, .int 0, .ref rp, .int 0, .int 0, .int 0, .int 0, .int 0, .int 0, .ref tp, .int 0, .int 0, .int 0, .int 0, .int 0, .int 0, .int 0, .int 0, .ref cu, .ref lt, .ref od, .ref th, .ref be, .ref ln, .int 0, .ref ma, .int 0, .ref ah, .ref bh, .ref ik, .ref la, .ref lg, .ref ce, .int 0]))]) [0] rfl
    refine va_calli (va_runV (As := [.int 0, .int (2 * i), .int v]) (rest := []) ⟨hx, hb, hml, hown, hg⟩ (c_X11_sets l dC dI G _ h0 st rp tp cu lt od th be ln ma ah bh ik la lg ce (2 * i) v ) (kwV hg mfX11_sets wt_1070 ⟨Nat.le_of_ble_eq_true rfl, Nat.le_of_ble_eq_true rfl⟩) (preVR hK hPc (ci := 11) rfl rfl) rfl rfl hl.1 rfl (lv_room (Nat.le_of_ble_eq_true rfl)) dX11_noise_30 ⟨Nat.le_of_ble_eq_true rfl, Nat.le_of_ble_eq_true rfl⟩) hS (fun q h1 h2 => absurd h2 (Nat.not_le.mpr h1)) (fun q h => hA q (Nat.le_trans hS.1 h)) (fun r4 ur4 t H1 locs ht hvm w5 hB hz1 hk1 hS => ?_)
    have hP := keepR hP hk1
    obtain ⟨w5, w5x⟩ := w5
    subst w5
    have hpost : ((-1) : Int32) = -1 := by
      have t_c3 := eqI c3
      have : (0 : Int32).toInt = 0 := (by decide)
      first | rfl | ((repeat' split) <;> first | rfl | omega)
    refine W.widen (k := 0) (n := 0) (by omega) (by omega) ?_
    exact W.iret (v := (-1)) hx hb hr (fun t ht hW => ⟨⟨(-1), (), rfl, ⟨hpost, trivial⟩, trivial⟩, hS.F ht⟩) hS.2.2 dX11_noise_33
  · skip
    exact absurd c3 (by decide)

set_option maxHeartbeats 4000000 in
set_option maxRecDepth 100000 in
theorem c_X11_cold (l : Launch) (dC : Nat → ClassId) (dI : Nat → Nat → Nat) (G : Nat → ClassId) (sz : Nat) (h0 st rp tp cu lt od th be ln ma ah bh ik la lg ce : Nat) (i v : Int32)    : Met l yX11_cold (Cond.code yX11_cold cX11_cold 3 (some .int) :: GT) ({ frames := 2, cells := 0, slots := 0, locals := 46 } : Room) (PcW [.ref h0, .int i, .int v] dC dI G [(h0, .inr (11, [.ref st, .int 0, .int 0, .ref rp, .int 0, .int 0, .int 0, .int 0, .int 0, .int 0, .ref tp, .int 0, .int 0, .int 0, .int 0, .int 0, .int 0, .int 0, .int 0, .ref cu, .ref lt, .ref od, .ref th, .ref be, .ref ln, .int 0, .ref ma, .int 0, .ref ah, .ref bh, .ref ik, .ref la, .ref lg, .ref ce, .int 0]))] sz) (va_Qi (fun (r : Int32) (u : Unit) => match u with | _ => (r = -1) ∧ True) (fun _ _ => True) (va_A [(h0, .inr (11, [.ref st, .int 0, .int 0, .ref rp, .int 0, .int 0, .int 0, .int 0, .int 0, .int 0, .ref tp, .int 0, .int 0, .int 0, .int 0, .int 0, .int 0, .int 0, .int 0, .ref cu, .ref lt, .ref od, .ref th, .ref be, .ref ln, .int 0, .ref ma, .int 0, .ref ah, .ref bh, .ref ik, .ref la, .ref lg, .ref ce, .int 0]))] sz)) 0 0 (va_A [(h0, .inr (11, [.ref st, .int 0, .int 0, .ref rp, .int 0, .int 0, .int 0, .int 0, .int 0, .int 0, .ref tp, .int 0, .int 0, .int 0, .int 0, .int 0, .int 0, .int 0, .int 0, .ref cu, .ref lt, .ref od, .ref th, .ref be, .ref ln, .int 0, .ref ma, .int 0, .ref ah, .ref bh, .ref ik, .ref la, .ref lg, .ref ce, .int 0]))] sz) := by
  refine Met.ofW (cc := cX11_cold) (maxL := 3) (ret := (some .int)) (by decide) rfl ?_
  intro p e s m args below meth c s₁ B hml hv
  obtain ⟨rfl, hsz, hP, hK, hD0⟩ := hv
  have hx := B.exec
  have hb := B.bytes
  have hr := B.returns
  have hg : ∀ w ∈ GT, w.before ([.ref h0, .int i, .int v] : List Value).toArray s = true := fun w h => atoms_spec (ws := Cond.code yX11_cold cX11_cold 3 (some .int) :: GT) B.pre w (List.mem_cons_of_mem _ h)
  have hown : s.vm.findClass RX11 = some m.cls := findClass_of_methodNamed B.named
  have hlocks := B.notSynchronized
  subst hsz
  have hD := hD0.self (sz := s.heap.size)
  generalize hAe : va_A [(h0, .inr (11, [.ref st, .int 0, .int 0, .ref rp, .int 0, .int 0, .int 0, .int 0, .int 0, .int 0, .ref tp, .int 0, .int 0, .int 0, .int 0, .int 0, .int 0, .int 0, .int 0, .ref cu, .ref lt, .ref od, .ref th, .ref be, .ref ln, .int 0, .ref ma, .int 0, .ref ah, .ref bh, .ref ik, .ref la, .ref lg, .ref ce, .int 0]))] s.heap.size = A at hD ⊢
  have hA : ∀ q : Nat, s.heap.size ≤ q → A q := fun q h => by rw [← hAe]; exact Or.inr h
  have hS : va_S A s.heap s.heap [] := va_S.rf
  have hl := lv_entry ([.ref h0, .int i, .int v]) (n := 3) (Nat.le_of_ble_eq_true rfl)
  rw [lg_entry_eq]
  generalize (lg_sl ([.ref h0, .int i, .int v]) ++ List.replicate (3 - (lg_sl ([.ref h0, .int i, .int v])).length) Slot.unset).toArray = ls at hl ⊢
  have hl : lv_has ls 3 [(0, .ref h0), (1, .int i), (2, .int v)] := hl
  refine lv_aload_n hx hb dX11_cold_0 rfl (lv_at hl 0 rfl) ?_
  refine lv_aload_n hx hb dX11_cold_1 rfl (lv_at hl 0 rfl) ?_
  refine lv_iload_n hx hb dX11_cold_2 rfl (lv_at hl 1 rfl) ?_
  have hPc := hP.sub (ws' := [(h0, .inr (11, [.ref st, .int 0, .int 0, .ref rp, .int 0, .int 0, .int 0, .int 0, .int 0, .int 0, .ref tp, .int 0, .int 0, .int 0, .int 0, .int 0, .int 0, .int 0, .int 0, .ref cu, .ref lt, .ref od, .ref th, .ref be, .ref ln, .int 0, .ref ma, .int 0, .ref ah, .ref bh, .ref ik, .ref la, .ref lg, .ref ce, .int 0]))]) [0] rfl
  refine va_calli (va_runV (As := [.int i]) (rest := [.ref h0]) ⟨hx, hb, hml, hown, hg⟩ (c_X11_isStretch l dC dI G _ h0 st rp tp cu lt od th be ln ma ah bh ik la lg ce i ) (kwV hg mfX11_isStretch wt_1052 ⟨Nat.le_of_ble_eq_true rfl, Nat.le_of_ble_eq_true rfl⟩) (preVR hK hPc (ci := 11) rfl rfl) rfl rfl hl.1 rfl (lv_room (Nat.le_of_ble_eq_true rfl)) dX11_cold_3 ⟨Nat.le_of_ble_eq_true rfl, Nat.le_of_ble_eq_true rfl⟩) hS (fun q h1 h2 => absurd h2 (Nat.not_le.mpr h1)) (fun q h => hA q (Nat.le_trans hS.1 h)) (fun r1 ur1 t H1 locs ht hvm w2 hB hz1 hk1 hS => ?_)
  have hP := keepR hP hk1
  obtain ⟨w2, w2x⟩ := w2
  subst w2
  refine lv_if_eq (tgt := 25) hx hb dX11_cold_6 (by decide) (fun c3 => ?_) (fun c3 => ?_)
  · skip
    refine lv_iconst (v := 0) hx hb dX11_cold_25 (by decide) ?_
    refine lv_iconst (v := 2) hx hb dX11_cold_26 (by decide) ?_
    refine lv_iload_n hx hb dX11_cold_27 rfl (lv_at hl 1 rfl) ?_
    refine lv_imul hx hb dX11_cold_28 ?_
    refine lv_iconst (v := 1) hx hb dX11_cold_29 (by decide) ?_
    refine lv_iadd hx hb dX11_cold_30 ?_
    refine lv_iload_n hx hb dX11_cold_31 rfl (lv_at hl 2 rfl) ?_
    have hPc := hP.sub (ws' := [(h0, .inr (11, [.ref st, .int 0, .int 0, .ref rp, .int 0, .int 0, .int 0, .int 0, .int 0, .int 0, .ref tp, .int 0, .int 0, .int 0, .int 0, .int 0, .int 0, .int 0, .int 0, .ref cu, .ref lt, .ref od, .ref th, .ref be, .ref ln, .int 0, .ref ma, .int 0, .ref ah, .ref bh, .ref ik, .ref la, .ref lg, .ref ce, .int 0]))]) [0] rfl
    refine va_calli (va_runV (As := [.int 0, .int ((2 * i) + 1), .int v]) (rest := []) ⟨hx, hb, hml, hown, hg⟩ (c_X11_sets l dC dI G _ h0 st rp tp cu lt od th be ln ma ah bh ik la lg ce ((2 * i) + 1) v ) (kwV hg mfX11_sets wt_1070 ⟨Nat.le_of_ble_eq_true rfl, Nat.le_of_ble_eq_true rfl⟩) (preVR hK hPc (ci := 11) rfl rfl) rfl rfl hl.1 rfl (lv_room (Nat.le_of_ble_eq_true rfl)) dX11_cold_32 ⟨Nat.le_of_ble_eq_true rfl, Nat.le_of_ble_eq_true rfl⟩) hS (fun q h1 h2 => absurd h2 (Nat.not_le.mpr h1)) (fun q h => hA q (Nat.le_trans hS.1 h)) (fun r4 ur4 t H1 locs ht hvm w5 hB hz1 hk1 hS => ?_)
    have hP := keepR hP hk1
    obtain ⟨w5, w5x⟩ := w5
    subst w5
    have hpost : ((-1) : Int32) = -1 := by
      have t_c3 := eqI c3
      have : (0 : Int32).toInt = 0 := (by decide)
      first | rfl | ((repeat' split) <;> first | rfl | omega)
    refine W.widen (k := 0) (n := 0) (by omega) (by omega) ?_
    exact W.iret (v := (-1)) hx hb hr (fun t ht hW => ⟨⟨(-1), (), rfl, ⟨hpost, trivial⟩, trivial⟩, hS.F ht⟩) hS.2.2 dX11_cold_35
  · skip
    exact absurd c3 (by decide)

set_option maxHeartbeats 4000000 in
set_option maxRecDepth 100000 in
theorem c_X11_step (l : Launch) (dC : Nat → ClassId) (dI : Nat → Nat → Nat) (G : Nat → ClassId) (sz : Nat) (h0 st rp tp cu lt od th be ln ma ah bh ik la lg ce : Nat) (i v : Int32)    : Met l yX11_step (Cond.code yX11_step cX11_step 3 (some .int) :: GT) ({ frames := 2, cells := 0, slots := 0, locals := 46 } : Room) (PcW [.ref h0, .int i, .int v] dC dI G [(h0, .inr (11, [.ref st, .int 0, .int 0, .ref rp, .int 0, .int 0, .int 0, .int 0, .int 0, .int 0, .ref tp, .int 0, .int 0, .int 0, .int 0, .int 0, .int 0, .int 0, .int 0, .ref cu, .ref lt, .ref od, .ref th, .ref be, .ref ln, .int 0, .ref ma, .int 0, .ref ah, .ref bh, .ref ik, .ref la, .ref lg, .ref ce, .int 0]))] sz) (va_Qi (fun (r : Int32) (u : Unit) => match u with | _ => (r = -1) ∧ True) (fun _ _ => True) (va_A [(h0, .inr (11, [.ref st, .int 0, .int 0, .ref rp, .int 0, .int 0, .int 0, .int 0, .int 0, .int 0, .ref tp, .int 0, .int 0, .int 0, .int 0, .int 0, .int 0, .int 0, .int 0, .ref cu, .ref lt, .ref od, .ref th, .ref be, .ref ln, .int 0, .ref ma, .int 0, .ref ah, .ref bh, .ref ik, .ref la, .ref lg, .ref ce, .int 0]))] sz)) 0 0 (va_A [(h0, .inr (11, [.ref st, .int 0, .int 0, .ref rp, .int 0, .int 0, .int 0, .int 0, .int 0, .int 0, .ref tp, .int 0, .int 0, .int 0, .int 0, .int 0, .int 0, .int 0, .int 0, .ref cu, .ref lt, .ref od, .ref th, .ref be, .ref ln, .int 0, .ref ma, .int 0, .ref ah, .ref bh, .ref ik, .ref la, .ref lg, .ref ce, .int 0]))] sz) := by
  refine Met.ofW (cc := cX11_step) (maxL := 3) (ret := (some .int)) (by decide) rfl ?_
  intro p e s m args below meth c s₁ B hml hv
  obtain ⟨rfl, hsz, hP, hK, hD0⟩ := hv
  have hx := B.exec
  have hb := B.bytes
  have hr := B.returns
  have hg : ∀ w ∈ GT, w.before ([.ref h0, .int i, .int v] : List Value).toArray s = true := fun w h => atoms_spec (ws := Cond.code yX11_step cX11_step 3 (some .int) :: GT) B.pre w (List.mem_cons_of_mem _ h)
  have hown : s.vm.findClass RX11 = some m.cls := findClass_of_methodNamed B.named
  have hlocks := B.notSynchronized
  subst hsz
  have hD := hD0.self (sz := s.heap.size)
  generalize hAe : va_A [(h0, .inr (11, [.ref st, .int 0, .int 0, .ref rp, .int 0, .int 0, .int 0, .int 0, .int 0, .int 0, .ref tp, .int 0, .int 0, .int 0, .int 0, .int 0, .int 0, .int 0, .int 0, .ref cu, .ref lt, .ref od, .ref th, .ref be, .ref ln, .int 0, .ref ma, .int 0, .ref ah, .ref bh, .ref ik, .ref la, .ref lg, .ref ce, .int 0]))] s.heap.size = A at hD ⊢
  have hA : ∀ q : Nat, s.heap.size ≤ q → A q := fun q h => by rw [← hAe]; exact Or.inr h
  have hS : va_S A s.heap s.heap [] := va_S.rf
  have hl := lv_entry ([.ref h0, .int i, .int v]) (n := 3) (Nat.le_of_ble_eq_true rfl)
  rw [lg_entry_eq]
  generalize (lg_sl ([.ref h0, .int i, .int v]) ++ List.replicate (3 - (lg_sl ([.ref h0, .int i, .int v])).length) Slot.unset).toArray = ls at hl ⊢
  have hl : lv_has ls 3 [(0, .ref h0), (1, .int i), (2, .int v)] := hl
  refine lv_aload_n hx hb dX11_step_0 rfl (lv_at hl 0 rfl) ?_
  refine lv_aload_n hx hb dX11_step_1 rfl (lv_at hl 0 rfl) ?_
  refine lv_iload_n hx hb dX11_step_2 rfl (lv_at hl 1 rfl) ?_
  have hPc := hP.sub (ws' := [(h0, .inr (11, [.ref st, .int 0, .int 0, .ref rp, .int 0, .int 0, .int 0, .int 0, .int 0, .int 0, .ref tp, .int 0, .int 0, .int 0, .int 0, .int 0, .int 0, .int 0, .int 0, .ref cu, .ref lt, .ref od, .ref th, .ref be, .ref ln, .int 0, .ref ma, .int 0, .ref ah, .ref bh, .ref ik, .ref la, .ref lg, .ref ce, .int 0]))]) [0] rfl
  refine va_calli (va_runV (As := [.int i]) (rest := [.ref h0]) ⟨hx, hb, hml, hown, hg⟩ (c_X11_isBearer l dC dI G _ h0 st rp tp cu lt od th be ln ma ah bh ik la lg ce i ) (kwV hg mfX11_isBearer wt_1061 ⟨Nat.le_of_ble_eq_true rfl, Nat.le_of_ble_eq_true rfl⟩) (preVR hK hPc (ci := 11) rfl rfl) rfl rfl hl.1 rfl (lv_room (Nat.le_of_ble_eq_true rfl)) dX11_step_3 ⟨Nat.le_of_ble_eq_true rfl, Nat.le_of_ble_eq_true rfl⟩) hS (fun q h1 h2 => absurd h2 (Nat.not_le.mpr h1)) (fun q h => hA q (Nat.le_trans hS.1 h)) (fun r1 ur1 t H1 locs ht hvm w2 hB hz1 hk1 hS => ?_)
  have hP := keepR hP hk1
  obtain ⟨w2, w2x⟩ := w2
  subst w2
  refine lv_if_eq (tgt := 25) hx hb dX11_step_6 (by decide) (fun c3 => ?_) (fun c3 => ?_)
  · skip
    refine lv_iconst (v := 0) hx hb dX11_step_25 (by decide) ?_
    refine lv_bipush (v := 20) hx hb dX11_step_26 (by decide) ?_
    refine lv_iconst (v := 3) hx hb dX11_step_28 (by decide) ?_
    refine lv_iload_n hx hb dX11_step_29 rfl (lv_at hl 1 rfl) ?_
    refine lv_imul hx hb dX11_step_30 ?_
    refine lv_iadd hx hb dX11_step_31 ?_
    refine lv_iconst (v := 1) hx hb dX11_step_32 (by decide) ?_
    refine lv_iadd hx hb dX11_step_33 ?_
    refine lv_iload_n hx hb dX11_step_34 rfl (lv_at hl 2 rfl) ?_
    have hPc := hP.sub (ws' := [(h0, .inr (11, [.ref st, .int 0, .int 0, .ref rp, .int 0, .int 0, .int 0, .int 0, .int 0, .int 0, .ref tp, .int 0, .int 0, .int 0, .int 0, .int 0, .int 0, .int 0, .int 0, .ref cu, .ref lt, .ref od, .ref th, .ref be, .ref ln, .int 0, .ref ma, .int 0, .ref ah, .ref bh, .ref ik, .ref la, .ref lg, .ref ce, .int 0]))]) [0] rfl
    refine va_calli (va_runV (As := [.int 0, .int ((20 + (3 * i)) + 1), .int v]) (rest := []) ⟨hx, hb, hml, hown, hg⟩ (c_X11_sets l dC dI G _ h0 st rp tp cu lt od th be ln ma ah bh ik la lg ce ((20 + (3 * i)) + 1) v ) (kwV hg mfX11_sets wt_1070 ⟨Nat.le_of_ble_eq_true rfl, Nat.le_of_ble_eq_true rfl⟩) (preVR hK hPc (ci := 11) rfl rfl) rfl rfl hl.1 rfl (lv_room (Nat.le_of_ble_eq_true rfl)) dX11_step_35 ⟨Nat.le_of_ble_eq_true rfl, Nat.le_of_ble_eq_true rfl⟩) hS (fun q h1 h2 => absurd h2 (Nat.not_le.mpr h1)) (fun q h => hA q (Nat.le_trans hS.1 h)) (fun r4 ur4 t H1 locs ht hvm w5 hB hz1 hk1 hS => ?_)
    have hP := keepR hP hk1
    obtain ⟨w5, w5x⟩ := w5
    subst w5
    have hpost : ((-1) : Int32) = -1 := by
      have t_c3 := eqI c3
      have : (0 : Int32).toInt = 0 := (by decide)
      first | rfl | ((repeat' split) <;> first | rfl | omega)
    refine W.widen (k := 0) (n := 0) (by omega) (by omega) ?_
    exact W.iret (v := (-1)) hx hb hr (fun t ht hW => ⟨⟨(-1), (), rfl, ⟨hpost, trivial⟩, trivial⟩, hS.F ht⟩) hS.2.2 dX11_step_38
  · skip
    exact absurd c3 (by decide)

set_option maxHeartbeats 4000000 in
set_option maxRecDepth 100000 in
theorem c_X11_warm (l : Launch) (dC : Nat → ClassId) (dI : Nat → Nat → Nat) (G : Nat → ClassId) (sz : Nat) (h0 st rp tp cu lt od th be ln ma ah bh ik la lg ce : Nat) (i v : Int32)    : Met l yX11_warm (Cond.code yX11_warm cX11_warm 3 (some .int) :: GT) ({ frames := 2, cells := 0, slots := 0, locals := 46 } : Room) (PcW [.ref h0, .int i, .int v] dC dI G [(h0, .inr (11, [.ref st, .int 0, .int 0, .ref rp, .int 0, .int 0, .int 0, .int 0, .int 0, .int 0, .ref tp, .int 0, .int 0, .int 0, .int 0, .int 0, .int 0, .int 0, .int 0, .ref cu, .ref lt, .ref od, .ref th, .ref be, .ref ln, .int 0, .ref ma, .int 0, .ref ah, .ref bh, .ref ik, .ref la, .ref lg, .ref ce, .int 0]))] sz) (va_Qi (fun (r : Int32) (u : Unit) => match u with | _ => (r = -1) ∧ True) (fun _ _ => True) (va_A [(h0, .inr (11, [.ref st, .int 0, .int 0, .ref rp, .int 0, .int 0, .int 0, .int 0, .int 0, .int 0, .ref tp, .int 0, .int 0, .int 0, .int 0, .int 0, .int 0, .int 0, .int 0, .ref cu, .ref lt, .ref od, .ref th, .ref be, .ref ln, .int 0, .ref ma, .int 0, .ref ah, .ref bh, .ref ik, .ref la, .ref lg, .ref ce, .int 0]))] sz)) 0 0 (va_A [(h0, .inr (11, [.ref st, .int 0, .int 0, .ref rp, .int 0, .int 0, .int 0, .int 0, .int 0, .int 0, .ref tp, .int 0, .int 0, .int 0, .int 0, .int 0, .int 0, .int 0, .int 0, .ref cu, .ref lt, .ref od, .ref th, .ref be, .ref ln, .int 0, .ref ma, .int 0, .ref ah, .ref bh, .ref ik, .ref la, .ref lg, .ref ce, .int 0]))] sz) := by
  refine Met.ofW (cc := cX11_warm) (maxL := 3) (ret := (some .int)) (by decide) rfl ?_
  intro p e s m args below meth c s₁ B hml hv
  obtain ⟨rfl, hsz, hP, hK, hD0⟩ := hv
  have hx := B.exec
  have hb := B.bytes
  have hr := B.returns
  have hg : ∀ w ∈ GT, w.before ([.ref h0, .int i, .int v] : List Value).toArray s = true := fun w h => atoms_spec (ws := Cond.code yX11_warm cX11_warm 3 (some .int) :: GT) B.pre w (List.mem_cons_of_mem _ h)
  have hown : s.vm.findClass RX11 = some m.cls := findClass_of_methodNamed B.named
  have hlocks := B.notSynchronized
  subst hsz
  have hD := hD0.self (sz := s.heap.size)
  generalize hAe : va_A [(h0, .inr (11, [.ref st, .int 0, .int 0, .ref rp, .int 0, .int 0, .int 0, .int 0, .int 0, .int 0, .ref tp, .int 0, .int 0, .int 0, .int 0, .int 0, .int 0, .int 0, .int 0, .ref cu, .ref lt, .ref od, .ref th, .ref be, .ref ln, .int 0, .ref ma, .int 0, .ref ah, .ref bh, .ref ik, .ref la, .ref lg, .ref ce, .int 0]))] s.heap.size = A at hD ⊢
  have hA : ∀ q : Nat, s.heap.size ≤ q → A q := fun q h => by rw [← hAe]; exact Or.inr h
  have hS : va_S A s.heap s.heap [] := va_S.rf
  have hl := lv_entry ([.ref h0, .int i, .int v]) (n := 3) (Nat.le_of_ble_eq_true rfl)
  rw [lg_entry_eq]
  generalize (lg_sl ([.ref h0, .int i, .int v]) ++ List.replicate (3 - (lg_sl ([.ref h0, .int i, .int v])).length) Slot.unset).toArray = ls at hl ⊢
  have hl : lv_has ls 3 [(0, .ref h0), (1, .int i), (2, .int v)] := hl
  refine lv_aload_n hx hb dX11_warm_0 rfl (lv_at hl 0 rfl) ?_
  refine lv_aload_n hx hb dX11_warm_1 rfl (lv_at hl 0 rfl) ?_
  refine lv_iload_n hx hb dX11_warm_2 rfl (lv_at hl 1 rfl) ?_
  have hPc := hP.sub (ws' := [(h0, .inr (11, [.ref st, .int 0, .int 0, .ref rp, .int 0, .int 0, .int 0, .int 0, .int 0, .int 0, .ref tp, .int 0, .int 0, .int 0, .int 0, .int 0, .int 0, .int 0, .int 0, .ref cu, .ref lt, .ref od, .ref th, .ref be, .ref ln, .int 0, .ref ma, .int 0, .ref ah, .ref bh, .ref ik, .ref la, .ref lg, .ref ce, .int 0]))]) [0] rfl
  refine va_calli (va_runV (As := [.int i]) (rest := [.ref h0]) ⟨hx, hb, hml, hown, hg⟩ (c_X11_isBearer l dC dI G _ h0 st rp tp cu lt od th be ln ma ah bh ik la lg ce i ) (kwV hg mfX11_isBearer wt_1061 ⟨Nat.le_of_ble_eq_true rfl, Nat.le_of_ble_eq_true rfl⟩) (preVR hK hPc (ci := 11) rfl rfl) rfl rfl hl.1 rfl (lv_room (Nat.le_of_ble_eq_true rfl)) dX11_warm_3 ⟨Nat.le_of_ble_eq_true rfl, Nat.le_of_ble_eq_true rfl⟩) hS (fun q h1 h2 => absurd h2 (Nat.not_le.mpr h1)) (fun q h => hA q (Nat.le_trans hS.1 h)) (fun r1 ur1 t H1 locs ht hvm w2 hB hz1 hk1 hS => ?_)
  have hP := keepR hP hk1
  obtain ⟨w2, w2x⟩ := w2
  subst w2
  refine lv_if_eq (tgt := 25) hx hb dX11_warm_6 (by decide) (fun c3 => ?_) (fun c3 => ?_)
  · skip
    refine lv_iconst (v := 0) hx hb dX11_warm_25 (by decide) ?_
    refine lv_bipush (v := 20) hx hb dX11_warm_26 (by decide) ?_
    refine lv_iconst (v := 3) hx hb dX11_warm_28 (by decide) ?_
    refine lv_iload_n hx hb dX11_warm_29 rfl (lv_at hl 1 rfl) ?_
    refine lv_imul hx hb dX11_warm_30 ?_
    refine lv_iadd hx hb dX11_warm_31 ?_
    refine lv_iconst (v := 2) hx hb dX11_warm_32 (by decide) ?_
    refine lv_iadd hx hb dX11_warm_33 ?_
    refine lv_iload_n hx hb dX11_warm_34 rfl (lv_at hl 2 rfl) ?_
    have hPc := hP.sub (ws' := [(h0, .inr (11, [.ref st, .int 0, .int 0, .ref rp, .int 0, .int 0, .int 0, .int 0, .int 0, .int 0, .ref tp, .int 0, .int 0, .int 0, .int 0, .int 0, .int 0, .int 0, .int 0, .ref cu, .ref lt, .ref od, .ref th, .ref be, .ref ln, .int 0, .ref ma, .int 0, .ref ah, .ref bh, .ref ik, .ref la, .ref lg, .ref ce, .int 0]))]) [0] rfl
    refine va_calli (va_runV (As := [.int 0, .int ((20 + (3 * i)) + 2), .int v]) (rest := []) ⟨hx, hb, hml, hown, hg⟩ (c_X11_sets l dC dI G _ h0 st rp tp cu lt od th be ln ma ah bh ik la lg ce ((20 + (3 * i)) + 2) v ) (kwV hg mfX11_sets wt_1070 ⟨Nat.le_of_ble_eq_true rfl, Nat.le_of_ble_eq_true rfl⟩) (preVR hK hPc (ci := 11) rfl rfl) rfl rfl hl.1 rfl (lv_room (Nat.le_of_ble_eq_true rfl)) dX11_warm_35 ⟨Nat.le_of_ble_eq_true rfl, Nat.le_of_ble_eq_true rfl⟩) hS (fun q h1 h2 => absurd h2 (Nat.not_le.mpr h1)) (fun q h => hA q (Nat.le_trans hS.1 h)) (fun r4 ur4 t H1 locs ht hvm w5 hB hz1 hk1 hS => ?_)
    have hP := keepR hP hk1
    obtain ⟨w5, w5x⟩ := w5
    subst w5
    have hpost : ((-1) : Int32) = -1 := by
      have t_c3 := eqI c3
      have : (0 : Int32).toInt = 0 := (by decide)
      first | rfl | ((repeat' split) <;> first | rfl | omega)
    refine W.widen (k := 0) (n := 0) (by omega) (by omega) ?_
    exact W.iret (v := (-1)) hx hb hr (fun t ht hW => ⟨⟨(-1), (), rfl, ⟨hpost, trivial⟩, trivial⟩, hS.F ht⟩) hS.2.2 dX11_warm_38
  · skip
    exact absurd c3 (by decide)

set_option maxHeartbeats 4000000 in
set_option maxRecDepth 100000 in
theorem c_X11_put (l : Launch) (dC : Nat → ClassId) (dI : Nat → Nat → Nat) (G : Nat → ClassId) (sz : Nat) (h0 st rp tp cu lt od th be ln ma ah bh ik la lg ce : Nat) (i v : Int32)    : Met l yX11_put (Cond.code yX11_put cX11_put 3 (some .int) :: GT) ({ frames := 3, cells := 0, slots := 0, locals := 68 } : Room) (PcW [.ref h0, .int i, .int v] dC dI G [(h0, .inr (11, [.ref st, .int 0, .int 0, .ref rp, .int 0, .int 0, .int 0, .int 0, .int 0, .int 0, .ref tp, .int 0, .int 0, .int 0, .int 0, .int 0, .int 0, .int 0, .int 0, .ref cu, .ref lt, .ref od, .ref th, .ref be, .ref ln, .int 0, .ref ma, .int 0, .ref ah, .ref bh, .ref ik, .ref la, .ref lg, .ref ce, .int 0]))] sz) (va_Qi (fun (r : Int32) (u : Unit) => match u with | _ => (r = -1) ∧ True) (fun _ _ => True) (va_A [(h0, .inr (11, [.ref st, .int 0, .int 0, .ref rp, .int 0, .int 0, .int 0, .int 0, .int 0, .int 0, .ref tp, .int 0, .int 0, .int 0, .int 0, .int 0, .int 0, .int 0, .int 0, .ref cu, .ref lt, .ref od, .ref th, .ref be, .ref ln, .int 0, .ref ma, .int 0, .ref ah, .ref bh, .ref ik, .ref la, .ref lg, .ref ce, .int 0]))] sz)) 0 0 (va_A [(h0, .inr (11, [.ref st, .int 0, .int 0, .ref rp, .int 0, .int 0, .int 0, .int 0, .int 0, .int 0, .ref tp, .int 0, .int 0, .int 0, .int 0, .int 0, .int 0, .int 0, .int 0, .ref cu, .ref lt, .ref od, .ref th, .ref be, .ref ln, .int 0, .ref ma, .int 0, .ref ah, .ref bh, .ref ik, .ref la, .ref lg, .ref ce, .int 0]))] sz) := by
  refine Met.ofW (cc := cX11_put) (maxL := 3) (ret := (some .int)) (by decide) rfl ?_
  intro p e s m args below meth c s₁ B hml hv
  obtain ⟨rfl, hsz, hP, hK, hD0⟩ := hv
  have hx := B.exec
  have hb := B.bytes
  have hr := B.returns
  have hg : ∀ w ∈ GT, w.before ([.ref h0, .int i, .int v] : List Value).toArray s = true := fun w h => atoms_spec (ws := Cond.code yX11_put cX11_put 3 (some .int) :: GT) B.pre w (List.mem_cons_of_mem _ h)
  have hown : s.vm.findClass RX11 = some m.cls := findClass_of_methodNamed B.named
  have hlocks := B.notSynchronized
  subst hsz
  have hD := hD0.self (sz := s.heap.size)
  generalize hAe : va_A [(h0, .inr (11, [.ref st, .int 0, .int 0, .ref rp, .int 0, .int 0, .int 0, .int 0, .int 0, .int 0, .ref tp, .int 0, .int 0, .int 0, .int 0, .int 0, .int 0, .int 0, .int 0, .ref cu, .ref lt, .ref od, .ref th, .ref be, .ref ln, .int 0, .ref ma, .int 0, .ref ah, .ref bh, .ref ik, .ref la, .ref lg, .ref ce, .int 0]))] s.heap.size = A at hD ⊢
  have hA : ∀ q : Nat, s.heap.size ≤ q → A q := fun q h => by rw [← hAe]; exact Or.inr h
  have hS : va_S A s.heap s.heap [] := va_S.rf
  have hl := lv_entry ([.ref h0, .int i, .int v]) (n := 3) (Nat.le_of_ble_eq_true rfl)
  rw [lg_entry_eq]
  generalize (lg_sl ([.ref h0, .int i, .int v]) ++ List.replicate (3 - (lg_sl ([.ref h0, .int i, .int v])).length) Slot.unset).toArray = ls at hl ⊢
  have hl : lv_has ls 3 [(0, .ref h0), (1, .int i), (2, .int v)] := hl
  refine lv_aload_n hx hb dX11_put_0 rfl (lv_at hl 0 rfl) ?_
  refine lv_iload_n hx hb dX11_put_1 rfl (lv_at hl 1 rfl) ?_
  refine lv_iload_n hx hb dX11_put_2 rfl (lv_at hl 2 rfl) ?_
  have hPc := hP.sub (ws' := [(h0, .inr (11, [.ref st, .int 0, .int 0, .ref rp, .int 0, .int 0, .int 0, .int 0, .int 0, .int 0, .ref tp, .int 0, .int 0, .int 0, .int 0, .int 0, .int 0, .int 0, .int 0, .ref cu, .ref lt, .ref od, .ref th, .ref be, .ref ln, .int 0, .ref ma, .int 0, .ref ah, .ref bh, .ref ik, .ref la, .ref lg, .ref ce, .int 0]))]) [0] rfl
  refine va_calli (va_runV (As := [.int i, .int v]) (rest := []) ⟨hx, hb, hml, hown, hg⟩ (c_X11_puts l dC dI G _ h0 st rp tp cu lt od th be ln ma ah bh ik la lg ce i v ) (kwV hg mfX11_puts wt_1094 ⟨Nat.le_of_ble_eq_true rfl, Nat.le_of_ble_eq_true rfl⟩) (preVR hK hPc (ci := 11) rfl rfl) rfl rfl hl.1 rfl (lv_room (Nat.le_of_ble_eq_true rfl)) dX11_put_3 ⟨Nat.le_of_ble_eq_true rfl, Nat.le_of_ble_eq_true rfl⟩) hS (fun q h1 h2 => absurd h2 (Nat.not_le.mpr h1)) (fun q h => hA q (Nat.le_trans hS.1 h)) (fun r1 ur1 t H1 locs ht hvm w2 hB hz1 hk1 hS => ?_)
  have hP := keepR hP hk1
  obtain ⟨w2, w2x⟩ := w2
  subst w2
  have hpost : ((-1) : Int32) = -1 := by
    first | rfl | ((repeat' split) <;> first | rfl | omega)
  refine W.widen (k := 0) (n := 0) (by omega) (by omega) ?_
  exact W.iret (v := (-1)) hx hb hr (fun t ht hW => ⟨⟨(-1), (), rfl, ⟨hpost, trivial⟩, trivial⟩, hS.F ht⟩) hS.2.2 dX11_put_6

set_option maxHeartbeats 4000000 in
set_option maxRecDepth 100000 in
theorem c_X11_harm (l : Launch) (dC : Nat → ClassId) (dI : Nat → Nat → Nat) (G : Nat → ClassId) (sz : Nat) (h0 st rp tp cu lt od th be ln ma ah bh ik la lg ce : Nat) (i g tb : Int32)    : Met l yX11_harm (Cond.code yX11_harm cX11_harm 4 (some .int) :: GT) ({ frames := 3, cells := 0, slots := 0, locals := 69 } : Room) (PcW [.ref h0, .int i, .int g, .int tb] dC dI G [(h0, .inr (11, [.ref st, .int 0, .int 0, .ref rp, .int 0, .int 0, .int 0, .int 0, .int 0, .int 0, .ref tp, .int 0, .int 0, .int 0, .int 0, .int 0, .int 0, .int 0, .int 0, .ref cu, .ref lt, .ref od, .ref th, .ref be, .ref ln, .int 0, .ref ma, .int 0, .ref ah, .ref bh, .ref ik, .ref la, .ref lg, .ref ce, .int 0]))] sz) (va_Qi (fun (r : Int32) (u : Unit) => match u with | _ => (r = -1) ∧ True) (fun _ _ => True) (va_A [(h0, .inr (11, [.ref st, .int 0, .int 0, .ref rp, .int 0, .int 0, .int 0, .int 0, .int 0, .int 0, .ref tp, .int 0, .int 0, .int 0, .int 0, .int 0, .int 0, .int 0, .int 0, .ref cu, .ref lt, .ref od, .ref th, .ref be, .ref ln, .int 0, .ref ma, .int 0, .ref ah, .ref bh, .ref ik, .ref la, .ref lg, .ref ce, .int 0]))] sz)) 0 0 (va_A [(h0, .inr (11, [.ref st, .int 0, .int 0, .ref rp, .int 0, .int 0, .int 0, .int 0, .int 0, .int 0, .ref tp, .int 0, .int 0, .int 0, .int 0, .int 0, .int 0, .int 0, .int 0, .ref cu, .ref lt, .ref od, .ref th, .ref be, .ref ln, .int 0, .ref ma, .int 0, .ref ah, .ref bh, .ref ik, .ref la, .ref lg, .ref ce, .int 0]))] sz) := by
  refine Met.ofW (cc := cX11_harm) (maxL := 4) (ret := (some .int)) (by decide) rfl ?_
  intro p e s m args below meth c s₁ B hml hv
  obtain ⟨rfl, hsz, hP, hK, hD0⟩ := hv
  have hx := B.exec
  have hb := B.bytes
  have hr := B.returns
  have hg : ∀ w ∈ GT, w.before ([.ref h0, .int i, .int g, .int tb] : List Value).toArray s = true := fun w h => atoms_spec (ws := Cond.code yX11_harm cX11_harm 4 (some .int) :: GT) B.pre w (List.mem_cons_of_mem _ h)
  have hown : s.vm.findClass RX11 = some m.cls := findClass_of_methodNamed B.named
  have hlocks := B.notSynchronized
  subst hsz
  have hD := hD0.self (sz := s.heap.size)
  generalize hAe : va_A [(h0, .inr (11, [.ref st, .int 0, .int 0, .ref rp, .int 0, .int 0, .int 0, .int 0, .int 0, .int 0, .ref tp, .int 0, .int 0, .int 0, .int 0, .int 0, .int 0, .int 0, .int 0, .ref cu, .ref lt, .ref od, .ref th, .ref be, .ref ln, .int 0, .ref ma, .int 0, .ref ah, .ref bh, .ref ik, .ref la, .ref lg, .ref ce, .int 0]))] s.heap.size = A at hD ⊢
  have hA : ∀ q : Nat, s.heap.size ≤ q → A q := fun q h => by rw [← hAe]; exact Or.inr h
  have hS : va_S A s.heap s.heap [] := va_S.rf
  have hl := lv_entry ([.ref h0, .int i, .int g, .int tb]) (n := 4) (Nat.le_of_ble_eq_true rfl)
  rw [lg_entry_eq]
  generalize (lg_sl ([.ref h0, .int i, .int g, .int tb]) ++ List.replicate (4 - (lg_sl ([.ref h0, .int i, .int g, .int tb])).length) Slot.unset).toArray = ls at hl ⊢
  have hl : lv_has ls 4 [(0, .ref h0), (1, .int i), (2, .int g), (3, .int tb)] := hl
  refine lv_aload_n hx hb dX11_harm_0 rfl (lv_at hl 0 rfl) ?_
  refine lv_iload_n hx hb dX11_harm_1 rfl (lv_at hl 1 rfl) ?_
  refine lv_iload_n hx hb dX11_harm_2 rfl (lv_at hl 2 rfl) ?_
  refine lv_iload_n hx hb dX11_harm_3 rfl (lv_at hl 3 rfl) ?_
  have hPc := hP.sub (ws' := [(h0, .inr (11, [.ref st, .int 0, .int 0, .ref rp, .int 0, .int 0, .int 0, .int 0, .int 0, .int 0, .ref tp, .int 0, .int 0, .int 0, .int 0, .int 0, .int 0, .int 0, .int 0, .ref cu, .ref lt, .ref od, .ref th, .ref be, .ref ln, .int 0, .ref ma, .int 0, .ref ah, .ref bh, .ref ik, .ref la, .ref lg, .ref ce, .int 0]))]) [0] rfl
  refine va_calli (va_runV (As := [.int i, .int g, .int tb]) (rest := []) ⟨hx, hb, hml, hown, hg⟩ (c_X11_canHarm l dC dI G _ h0 st rp tp cu lt od th be ln ma ah bh ik la lg ce i g tb ) (kwV hg mfX11_canHarm wt_1102 ⟨Nat.le_of_ble_eq_true rfl, Nat.le_of_ble_eq_true rfl⟩) (preVR hK hPc (ci := 11) rfl rfl) rfl rfl hl.1 rfl (lv_room (Nat.le_of_ble_eq_true rfl)) dX11_harm_4 ⟨Nat.le_of_ble_eq_true rfl, Nat.le_of_ble_eq_true rfl⟩) hS (fun q h1 h2 => absurd h2 (Nat.not_le.mpr h1)) (fun q h => hA q (Nat.le_trans hS.1 h)) (fun r1 ur1 t H1 locs ht hvm w2 hB hz1 hk1 hS => ?_)
  have hP := keepR hP hk1
  obtain ⟨w2, w2x⟩ := w2
  subst w2
  refine lv_if_eq (tgt := 21) hx hb dX11_harm_7 (by decide) (fun c3 => ?_) (fun c3 => ?_)
  · skip
    refine lv_iconst (v := (-1)) hx hb dX11_harm_21 (by decide) ?_
    have hpost : ((-1) : Int32) = -1 := by
      have t_c3 := eqI c3
      have : (0 : Int32).toInt = 0 := (by decide)
      first | rfl | ((repeat' split) <;> first | rfl | omega)
    refine W.widen (k := 0) (n := 0) (by omega) (by omega) ?_
    exact W.iret (v := (-1)) hx hb hr (fun t ht hW => ⟨⟨(-1), (), rfl, ⟨hpost, trivial⟩, trivial⟩, hS.F ht⟩) hS.2.2 dX11_harm_22
  · skip
    exact absurd c3 (by decide)

set_option maxHeartbeats 4000000 in
set_option maxRecDepth 100000 in
theorem c_X11_wakes (l : Launch) (dC : Nat → ClassId) (dI : Nat → Nat → Nat) (G : Nat → ClassId) (sz : Nat) (h0 st rp tp cu lt od th be ln ma ah bh ik la lg ce : Nat) (what : Int32)    : Met l yX11_wakes (Cond.code yX11_wakes cX11_wakes 2 (some .long) :: GT) ({ frames := 2, cells := 0, slots := 0, locals := 47 } : Room) (PcW [.ref h0, .int what] dC dI G [(h0, .inr (11, [.ref st, .int 0, .int 0, .ref rp, .int 0, .int 0, .int 0, .int 0, .int 0, .int 0, .ref tp, .int 0, .int 0, .int 0, .int 0, .int 0, .int 0, .int 0, .int 0, .ref cu, .ref lt, .ref od, .ref th, .ref be, .ref ln, .int 0, .ref ma, .int 0, .ref ah, .ref bh, .ref ik, .ref la, .ref lg, .ref ce, .int 0])), (st, .inl (G 0, 196, .inl (fun _ => 0))), (od, .inl (G 1, 10, .inr (.inl (fun _ => 0))))] sz) (va_Ql (fun (r : Int64) (u : Unit) => match u with | _ => (r = if what.toInt = 0 then 0 else if what.toInt = 1 then 1 else -1) ∧ True) (fun _ _ => True) (va_A [(h0, .inr (11, [.ref st, .int 0, .int 0, .ref rp, .int 0, .int 0, .int 0, .int 0, .int 0, .int 0, .ref tp, .int 0, .int 0, .int 0, .int 0, .int 0, .int 0, .int 0, .int 0, .ref cu, .ref lt, .ref od, .ref th, .ref be, .ref ln, .int 0, .ref ma, .int 0, .ref ah, .ref bh, .ref ik, .ref la, .ref lg, .ref ce, .int 0])), (st, .inl (G 0, 196, .inl (fun _ => 0))), (od, .inl (G 1, 10, .inr (.inl (fun _ => 0))))] sz)) 0 0 (va_A [(h0, .inr (11, [.ref st, .int 0, .int 0, .ref rp, .int 0, .int 0, .int 0, .int 0, .int 0, .int 0, .ref tp, .int 0, .int 0, .int 0, .int 0, .int 0, .int 0, .int 0, .int 0, .ref cu, .ref lt, .ref od, .ref th, .ref be, .ref ln, .int 0, .ref ma, .int 0, .ref ah, .ref bh, .ref ik, .ref la, .ref lg, .ref ce, .int 0])), (st, .inl (G 0, 196, .inl (fun _ => 0))), (od, .inl (G 1, 10, .inr (.inl (fun _ => 0))))] sz) := by
  refine Met.ofW (cc := cX11_wakes) (maxL := 2) (ret := (some .long)) (by decide) rfl ?_
  intro p e s m args below meth c s₁ B hml hv
  obtain ⟨rfl, hsz, hP, hK, hD0⟩ := hv
  have hx := B.exec
  have hb := B.bytes
  have hr := B.returns
  have hg : ∀ w ∈ GT, w.before ([.ref h0, .int what] : List Value).toArray s = true := fun w h => atoms_spec (ws := Cond.code yX11_wakes cX11_wakes 2 (some .long) :: GT) B.pre w (List.mem_cons_of_mem _ h)
  have hown : s.vm.findClass RX11 = some m.cls := findClass_of_methodNamed B.named
  have hlocks := B.notSynchronized
  subst hsz
  have hD := hD0.self (sz := s.heap.size)
  generalize hAe : va_A [(h0, .inr (11, [.ref st, .int 0, .int 0, .ref rp, .int 0, .int 0, .int 0, .int 0, .int 0, .int 0, .ref tp, .int 0, .int 0, .int 0, .int 0, .int 0, .int 0, .int 0, .int 0, .ref cu, .ref lt, .ref od, .ref th, .ref be, .ref ln, .int 0, .ref ma, .int 0, .ref ah, .ref bh, .ref ik, .ref la, .ref lg, .ref ce, .int 0])), (st, .inl (G 0, 196, .inl (fun _ => 0))), (od, .inl (G 1, 10, .inr (.inl (fun _ => 0))))] s.heap.size = A at hD ⊢
  have hA : ∀ q : Nat, s.heap.size ≤ q → A q := fun q h => by rw [← hAe]; exact Or.inr h
  have hS : va_S A s.heap s.heap [] := va_S.rf
  have hl := lv_entry ([.ref h0, .int what]) (n := 2) (Nat.le_of_ble_eq_true rfl)
  rw [lg_entry_eq]
  generalize (lg_sl ([.ref h0, .int what]) ++ List.replicate (2 - (lg_sl ([.ref h0, .int what])).length) Slot.unset).toArray = ls at hl ⊢
  have hl : lv_has ls 2 [(0, .ref h0), (1, .int what)] := hl
  refine lv_iload_n hx hb dX11_wakes_0 rfl (lv_at hl 1 rfl) ?_
  refine lv_i2l (v := what.toInt64) hx hb dX11_wakes_1 rfl ?_
  refine lv_lconst (v := 0) hx hb dX11_wakes_2 (by decide) ?_
  refine lv_lconst (v := 1) hx hb dX11_wakes_3 (by decide) ?_
  have hPc := hP.sub (ws' := []) [] rfl
  refine va_calli (va_runS (As := [.long what.toInt64, .long 0, .long 1]) (rest := []) ⟨hx, hb, hml, hown, hg⟩ (c_X11_in l dC dI G _ what.toInt64 0 1 ) (kwS hg mfX11_in wt_992 ⟨Nat.le_of_ble_eq_true rfl, Nat.le_of_ble_eq_true rfl⟩) (preSR hK hPc) rfl rfl hl.1 rfl (lv_room (Nat.le_of_ble_eq_true rfl)) dX11_wakes_4 ⟨Nat.le_of_ble_eq_true rfl, Nat.le_of_ble_eq_true rfl⟩) hS (fun q h1 h2 => absurd h2 (Nat.not_le.mpr h1)) (fun q h => hA q (Nat.le_trans hS.1 h)) (fun r1 ur1 t H1 locs ht hvm w2 hB hz1 hk1 hS => ?_)
  have hP := keepR hP hk1
  obtain ⟨w2, w2x⟩ := w2
  try simp only [l_ii, show (0 : Int64).toInt = 0 from by decide, show (1 : Int64).toInt = 1 from by decide] at w2
  subst w2
  refine lv_if_ne (tgt := 14) hx hb dX11_wakes_7 (by decide) (fun c3 => ?_) (fun c3 => ?_)
  · skip
    have b4 := if10_p c3
    refine lv_aload_n hx hb dX11_wakes_14 rfl (lv_at hl 0 rfl) ?_
    refine lv_aload_n hx hb dX11_wakes_15 rfl (lv_at hl 0 rfl) ?_
    refine va_get (D := (dC, dI)) (ci := 11) (v := .int 0) (C := RX11) (T := TX11) (N := 35) hx hb hg inG11 hown hK.1 hP 0 rfl rfl 1 (by decide) (hg _ wt_879) (fun _ h9 => h9) rfl dX11_wakes_16 ?_
    refine lv_iconst (v := 0) hx hb dX11_wakes_19 (by decide) ?_
    refine lv_bipush (v := (-4)) hx hb dX11_wakes_20 (by decide) ?_
    have hPc := hP.sub (ws' := [(h0, .inr (11, [.ref st, .int 0, .int 0, .ref rp, .int 0, .int 0, .int 0, .int 0, .int 0, .int 0, .ref tp, .int 0, .int 0, .int 0, .int 0, .int 0, .int 0, .int 0, .int 0, .ref cu, .ref lt, .ref od, .ref th, .ref be, .ref ln, .int 0, .ref ma, .int 0, .ref ah, .ref bh, .ref ik, .ref la, .ref lg, .ref ce, .int 0])), (st, .inl (G 0, 196, .inl (fun _ => 0))), (od, .inl (G 1, 10, .inr (.inl (fun _ => 0))))]) [0, 1, 2] rfl
    have hDc := hD.sub (ws' := [(h0, .inr (11, [.ref st, .int 0, .int 0, .ref rp, .int 0, .int 0, .int 0, .int 0, .int 0, .int 0, .ref tp, .int 0, .int 0, .int 0, .int 0, .int 0, .int 0, .int 0, .int 0, .ref cu, .ref lt, .ref od, .ref th, .ref be, .ref ln, .int 0, .ref ma, .int 0, .ref ah, .ref bh, .ref ik, .ref la, .ref lg, .ref ce, .int 0])), (st, .inl (G 0, 196, .inl (fun _ => 0))), (od, .inl (G 1, 10, .inr (.inl (fun _ => 0))))]) [0, 1, 2] (by decide) rfl
    have hFc := va_free (wc := [(h0, .inr (11, [.ref st, .int 0, .int 0, .ref rp, .int 0, .int 0, .int 0, .int 0, .int 0, .int 0, .ref tp, .int 0, .int 0, .int 0, .int 0, .int 0, .int 0, .int 0, .int 0, .ref cu, .ref lt, .ref od, .ref th, .ref be, .ref ln, .int 0, .ref ma, .int 0, .ref ah, .ref bh, .ref ik, .ref la, .ref lg, .ref ce, .int 0])), (st, .inl (G 0, 196, .inl (fun _ => 0))), (od, .inl (G 1, 10, .inr (.inl (fun _ => 0))))]) hD hS hA [0, 1, 2] rfl
    refine va_callv (va_runV (As := [.int 0, .int 0, .int (-4)]) (rest := []) ⟨hx, hb, hml, hown, hg⟩ (c_X11_layOdds l dC dI G _ h0 st rp tp cu lt od th be ln ma ah bh ik la lg ce 0 (-4) (fun _ => 0) ) (kwV hg mfX11_layOdds wt_1119 ⟨Nat.le_of_ble_eq_true rfl, Nat.le_of_ble_eq_true rfl⟩) (preVW hK hPc hDc (ci := 11) rfl rfl) rfl rfl hl.1 rfl (lv_room (Nat.le_of_ble_eq_true rfl)) dX11_wakes_22 ⟨Nat.le_of_ble_eq_true rfl, Nat.le_of_ble_eq_true rfl⟩) hS (fun q _ h => hFc q h) hFc (fun ur5 t H1 locs ht hvm w6 hB hz1 hk1 hS => ?_)
    obtain ⟨u7, rfl⟩ : ∃ z, z = ur5 := ⟨_, rfl⟩
    obtain ⟨hP1, hD1⟩ := hB
    rw [ht] at hP1
    obtain ⟨hP, hD⟩ := va_join (wr := []) (w1 := [(h0, .inr (11, [.ref st, .int 0, .int 0, .ref rp, .int 0, .int 0, .int 0, .int 0, .int 0, .int 0, .ref tp, .int 0, .int 0, .int 0, .int 0, .int 0, .int 0, .int 0, .int 0, .ref cu, .ref lt, .ref od, .ref th, .ref be, .ref ln, .int 0, .ref ma, .int 0, .ref ah, .ref bh, .ref ik, .ref la, .ref lg, .ref ce, .int 0])), (st, .inl (G 0, 196, .inl (fun _ => 0))), (od, .inl (G 1, 10, .inr (.inl u7)))]) hP hD [0, 1, 2] [] rfl rfl (by decide) (by decide) hk1 hFc hP1 hD1
    generalize H1 = H at hP hS ⊢
    have hP : va_P (dC, dI) vwCl [(h0, .inr (11, [.ref st, .int 0, .int 0, .ref rp, .int 0, .int 0, .int 0, .int 0, .int 0, .int 0, .ref tp, .int 0, .int 0, .int 0, .int 0, .int 0, .int 0, .int 0, .int 0, .ref cu, .ref lt, .ref od, .ref th, .ref be, .ref ln, .int 0, .ref ma, .int 0, .ref ah, .ref bh, .ref ik, .ref la, .ref lg, .ref ce, .int 0])), (st, .inl (G 0, 196, .inl (fun _ => 0))), (od, .inl (G 1, 10, .inr (.inl u7)))] H := hP
    have hD : va_D A [(h0, .inr (11, [.ref st, .int 0, .int 0, .ref rp, .int 0, .int 0, .int 0, .int 0, .int 0, .int 0, .ref tp, .int 0, .int 0, .int 0, .int 0, .int 0, .int 0, .int 0, .int 0, .ref cu, .ref lt, .ref od, .ref th, .ref be, .ref ln, .int 0, .ref ma, .int 0, .ref ah, .ref bh, .ref ik, .ref la, .ref lg, .ref ce, .int 0])), (st, .inl (G 0, 196, .inl (fun _ => 0))), (od, .inl (G 1, 10, .inr (.inl u7)))] := hD
    refine lv_aload_n hx hb dX11_wakes_25 rfl (lv_at hl 0 rfl) ?_
    refine va_get (D := (dC, dI)) (ci := 11) (v := .ref od) (C := RX11) (T := TX11) (N := 35) hx hb hg inG11 hown hK.1 hP 0 rfl rfl 21 (by decide) (hg _ wt_899) (fun _ h9 => h9) rfl dX11_wakes_26 ?_
    refine lv_iconst (v := 0) hx hb dX11_wakes_29 (by decide) ?_
    refine va_lald hx hb hK.1 hP 2 1 rfl rfl (vp_in_iff.mpr ⟨by decide, by decide⟩) dX11_wakes_30 ?_
    refine lv_cgl (y := 0) (w6) ?_
    refine lv_aload_n hx hb dX11_wakes_31 rfl (lv_at hl 0 rfl) ?_
    refine va_get (D := (dC, dI)) (ci := 11) (v := .int 0) (C := RX11) (T := TX11) (N := 35) hx hb hg inG11 hown hK.1 hP 0 rfl rfl 1 (by decide) (hg _ wt_879) (fun _ h9 => h9) rfl dX11_wakes_32 ?_
    have hPc := hP.sub (ws' := []) [] rfl
    refine va_calll (va_runS (As := [.int 0]) (rest := [.long 0]) ⟨hx, hb, hml, hown, hg⟩ (c_X11_power l dC dI G _  ) (kwS hg mfX11_power wt_1131 ⟨Nat.le_of_ble_eq_true rfl, Nat.le_of_ble_eq_true rfl⟩) (preSR hK hPc) rfl rfl hl.1 rfl (lv_room (Nat.le_of_ble_eq_true rfl)) dX11_wakes_35 ⟨Nat.le_of_ble_eq_true rfl, Nat.le_of_ble_eq_true rfl⟩) hS (fun q h1 h2 => absurd h2 (Nat.not_le.mpr h1)) (fun q h => hA q (Nat.le_trans hS.1 h)) (fun r8 ur8 t H1 locs ht hvm w9 hB hz1 hk1 hS => ?_)
    have hP := keepR hP hk1
    obtain ⟨w9, w9x⟩ := w9
    subst w9
    refine lv_iload_n hx hb dX11_wakes_38 rfl (lv_at hl 1 rfl) ?_
    have hPc := hP.sub (ws' := []) [] rfl
    refine va_calll (va_runS (As := [.long 0, .long 1, .int what]) (rest := []) ⟨hx, hb, hml, hown, hg⟩ (c_X11_lowest l dC dI G _ what ) (kwS hg mfX11_lowest wt_1134 ⟨Nat.le_of_ble_eq_true rfl, Nat.le_of_ble_eq_true rfl⟩) (preSR hK hPc) rfl rfl hl.1 rfl (lv_room (Nat.le_of_ble_eq_true rfl)) dX11_wakes_39 ⟨Nat.le_of_ble_eq_true rfl, Nat.le_of_ble_eq_true rfl⟩) hS (fun q h1 h2 => absurd h2 (Nat.not_le.mpr h1)) (fun q h => hA q (Nat.le_trans hS.1 h)) (fun r10 ur10 t H1 locs ht hvm w11 hB hz1 hk1 hS => ?_)
    have hP := keepR hP hk1
    obtain ⟨w11, w11x⟩ := w11
    subst w11
    have hpost : (if what.toInt = 0 then 0 else 1 : Int64) = if what.toInt = 0 then 0 else if what.toInt = 1 then 1 else -1 := by
      have t_b4 := b4
      first | rfl | ((repeat' split) <;> first | rfl | omega)
    refine W.widen (k := 0) (n := 0) (by omega) (by omega) ?_
    exact W.lret (v := if what.toInt = 0 then 0 else 1) hx hb hr (fun t ht hW => ⟨⟨if what.toInt = 0 then 0 else 1, (), rfl, ⟨hpost, trivial⟩, trivial⟩, hS.F ht⟩) hS.2.2 dX11_wakes_42
  · skip
    have b12 := if10_n c3
    refine lv_ldc2 (v := (-1)) hx hb hown (hg _ wt_1118) dX11_wakes_10 ?_
    have hpost : ((-1) : Int64) = if what.toInt = 0 then 0 else if what.toInt = 1 then 1 else -1 := by
      have t_b12 := b12
      first | rfl | ((repeat' split) <;> first | rfl | omega)
    refine W.widen (k := 0) (n := 0) (by omega) (by omega) ?_
    exact W.lret (v := (-1)) hx hb hr (fun t ht hW => ⟨⟨(-1), (), rfl, ⟨hpost, trivial⟩, trivial⟩, hS.F ht⟩) hS.2.2 dX11_wakes_13

set_option maxHeartbeats 4000000 in
set_option maxRecDepth 100000 in
theorem c_X11_depth (l : Launch) (dC : Nat → ClassId) (dI : Nat → Nat → Nat) (G : Nat → ClassId) (sz : Nat) (h0 st rp tp cu lt od th be ln ma ah bh ik la lg ce : Nat) (i q what : Int32)    : Met l yX11_depth (Cond.code yX11_depth cX11_depth 4 (some .long) :: GT) ({ frames := 2, cells := 0, slots := 0, locals := 46 } : Room) (PcW [.ref h0, .int i, .int q, .int what] dC dI G [(h0, .inr (11, [.ref st, .int 0, .int 0, .ref rp, .int 0, .int 0, .int 0, .int 0, .int 0, .int 0, .ref tp, .int 0, .int 0, .int 0, .int 0, .int 0, .int 0, .int 0, .int 0, .ref cu, .ref lt, .ref od, .ref th, .ref be, .ref ln, .int 0, .ref ma, .int 0, .ref ah, .ref bh, .ref ik, .ref la, .ref lg, .ref ce, .int 0]))] sz) (va_Ql (fun (r : Int64) (u : Unit) => match u with | _ => (r = -1) ∧ True) (fun _ _ => True) (va_A [(h0, .inr (11, [.ref st, .int 0, .int 0, .ref rp, .int 0, .int 0, .int 0, .int 0, .int 0, .int 0, .ref tp, .int 0, .int 0, .int 0, .int 0, .int 0, .int 0, .int 0, .int 0, .ref cu, .ref lt, .ref od, .ref th, .ref be, .ref ln, .int 0, .ref ma, .int 0, .ref ah, .ref bh, .ref ik, .ref la, .ref lg, .ref ce, .int 0]))] sz)) 0 0 (va_A [(h0, .inr (11, [.ref st, .int 0, .int 0, .ref rp, .int 0, .int 0, .int 0, .int 0, .int 0, .int 0, .ref tp, .int 0, .int 0, .int 0, .int 0, .int 0, .int 0, .int 0, .int 0, .ref cu, .ref lt, .ref od, .ref th, .ref be, .ref ln, .int 0, .ref ma, .int 0, .ref ah, .ref bh, .ref ik, .ref la, .ref lg, .ref ce, .int 0]))] sz) := by
  refine Met.ofW (cc := cX11_depth) (maxL := 4) (ret := (some .long)) (by decide) rfl ?_
  intro p e s m args below meth c s₁ B hml hv
  obtain ⟨rfl, hsz, hP, hK, hD0⟩ := hv
  have hx := B.exec
  have hb := B.bytes
  have hr := B.returns
  have hg : ∀ w ∈ GT, w.before ([.ref h0, .int i, .int q, .int what] : List Value).toArray s = true := fun w h => atoms_spec (ws := Cond.code yX11_depth cX11_depth 4 (some .long) :: GT) B.pre w (List.mem_cons_of_mem _ h)
  have hown : s.vm.findClass RX11 = some m.cls := findClass_of_methodNamed B.named
  have hlocks := B.notSynchronized
  subst hsz
  have hD := hD0.self (sz := s.heap.size)
  generalize hAe : va_A [(h0, .inr (11, [.ref st, .int 0, .int 0, .ref rp, .int 0, .int 0, .int 0, .int 0, .int 0, .int 0, .ref tp, .int 0, .int 0, .int 0, .int 0, .int 0, .int 0, .int 0, .int 0, .ref cu, .ref lt, .ref od, .ref th, .ref be, .ref ln, .int 0, .ref ma, .int 0, .ref ah, .ref bh, .ref ik, .ref la, .ref lg, .ref ce, .int 0]))] s.heap.size = A at hD ⊢
  have hA : ∀ q : Nat, s.heap.size ≤ q → A q := fun q h => by rw [← hAe]; exact Or.inr h
  have hS : va_S A s.heap s.heap [] := va_S.rf
  have hl := lv_entry ([.ref h0, .int i, .int q, .int what]) (n := 4) (Nat.le_of_ble_eq_true rfl)
  rw [lg_entry_eq]
  generalize (lg_sl ([.ref h0, .int i, .int q, .int what]) ++ List.replicate (4 - (lg_sl ([.ref h0, .int i, .int q, .int what])).length) Slot.unset).toArray = ls at hl ⊢
  have hl : lv_has ls 4 [(0, .ref h0), (1, .int i), (2, .int q), (3, .int what)] := hl
  refine lv_aload_n hx hb dX11_depth_0 rfl (lv_at hl 0 rfl) ?_
  refine lv_iload_n hx hb dX11_depth_1 rfl (lv_at hl 1 rfl) ?_
  have hPc := hP.sub (ws' := [(h0, .inr (11, [.ref st, .int 0, .int 0, .ref rp, .int 0, .int 0, .int 0, .int 0, .int 0, .int 0, .ref tp, .int 0, .int 0, .int 0, .int 0, .int 0, .int 0, .int 0, .int 0, .ref cu, .ref lt, .ref od, .ref th, .ref be, .ref ln, .int 0, .ref ma, .int 0, .ref ah, .ref bh, .ref ik, .ref la, .ref lg, .ref ce, .int 0]))]) [0] rfl
  refine va_calli (va_runV (As := [.int i]) (rest := []) ⟨hx, hb, hml, hown, hg⟩ (c_X11_isStretch l dC dI G _ h0 st rp tp cu lt od th be ln ma ah bh ik la lg ce i ) (kwV hg mfX11_isStretch wt_1052 ⟨Nat.le_of_ble_eq_true rfl, Nat.le_of_ble_eq_true rfl⟩) (preVR hK hPc (ci := 11) rfl rfl) rfl rfl hl.1 rfl (lv_room (Nat.le_of_ble_eq_true rfl)) dX11_depth_2 ⟨Nat.le_of_ble_eq_true rfl, Nat.le_of_ble_eq_true rfl⟩) hS (fun q h1 h2 => absurd h2 (Nat.not_le.mpr h1)) (fun q h => hA q (Nat.le_trans hS.1 h)) (fun r1 ur1 t H1 locs ht hvm w2 hB hz1 hk1 hS => ?_)
  have hP := keepR hP hk1
  obtain ⟨w2, w2x⟩ := w2
  subst w2
  refine lv_if_eq (tgt := 30) hx hb dX11_depth_5 (by decide) (fun c3 => ?_) (fun c3 => ?_)
  · skip
    refine lv_ldc2 (v := (-1)) hx hb hown (hg _ wt_1118) dX11_depth_30 ?_
    have hpost : ((-1) : Int64) = -1 := by
      have t_c3 := eqI c3
      have : (0 : Int32).toInt = 0 := (by decide)
      first | rfl | ((repeat' split) <;> first | rfl | omega)
    refine W.widen (k := 0) (n := 0) (by omega) (by omega) ?_
    exact W.lret (v := (-1)) hx hb hr (fun t ht hW => ⟨⟨(-1), (), rfl, ⟨hpost, trivial⟩, trivial⟩, hS.F ht⟩) hS.2.2 dX11_depth_33
  · skip
    exact absurd c3 (by decide)

set_option maxHeartbeats 4000000 in
set_option maxRecDepth 100000 in
theorem c_X11_awake (l : Launch) (dC : Nat → ClassId) (dI : Nat → Nat → Nat) (G : Nat → ClassId) (sz : Nat) (h0 st rp tp cu lt od th be ln ma ah bh ik la lg ce : Nat) (i what : Int32)    : Met l yX11_awake (Cond.code yX11_awake cX11_awake 3 (some .long) :: GT) ({ frames := 3, cells := 0, slots := 0, locals := 69 } : Room) (PcW [.ref h0, .int i, .int what] dC dI G [(h0, .inr (11, [.ref st, .int 0, .int 0, .ref rp, .int 0, .int 0, .int 0, .int 0, .int 0, .int 0, .ref tp, .int 0, .int 0, .int 0, .int 0, .int 0, .int 0, .int 0, .int 0, .ref cu, .ref lt, .ref od, .ref th, .ref be, .ref ln, .int 0, .ref ma, .int 0, .ref ah, .ref bh, .ref ik, .ref la, .ref lg, .ref ce, .int 0]))] sz) (va_Ql (fun (r : Int64) (u : Unit) => match u with | _ => (r = -1) ∧ True) (fun _ _ => True) (va_A [(h0, .inr (11, [.ref st, .int 0, .int 0, .ref rp, .int 0, .int 0, .int 0, .int 0, .int 0, .int 0, .ref tp, .int 0, .int 0, .int 0, .int 0, .int 0, .int 0, .int 0, .int 0, .ref cu, .ref lt, .ref od, .ref th, .ref be, .ref ln, .int 0, .ref ma, .int 0, .ref ah, .ref bh, .ref ik, .ref la, .ref lg, .ref ce, .int 0]))] sz)) 0 0 (va_A [(h0, .inr (11, [.ref st, .int 0, .int 0, .ref rp, .int 0, .int 0, .int 0, .int 0, .int 0, .int 0, .ref tp, .int 0, .int 0, .int 0, .int 0, .int 0, .int 0, .int 0, .int 0, .ref cu, .ref lt, .ref od, .ref th, .ref be, .ref ln, .int 0, .ref ma, .int 0, .ref ah, .ref bh, .ref ik, .ref la, .ref lg, .ref ce, .int 0]))] sz) := by
  refine Met.ofW (cc := cX11_awake) (maxL := 3) (ret := (some .long)) (by decide) rfl ?_
  intro p e s m args below meth c s₁ B hml hv
  obtain ⟨rfl, hsz, hP, hK, hD0⟩ := hv
  have hx := B.exec
  have hb := B.bytes
  have hr := B.returns
  have hg : ∀ w ∈ GT, w.before ([.ref h0, .int i, .int what] : List Value).toArray s = true := fun w h => atoms_spec (ws := Cond.code yX11_awake cX11_awake 3 (some .long) :: GT) B.pre w (List.mem_cons_of_mem _ h)
  have hown : s.vm.findClass RX11 = some m.cls := findClass_of_methodNamed B.named
  have hlocks := B.notSynchronized
  subst hsz
  have hD := hD0.self (sz := s.heap.size)
  generalize hAe : va_A [(h0, .inr (11, [.ref st, .int 0, .int 0, .ref rp, .int 0, .int 0, .int 0, .int 0, .int 0, .int 0, .ref tp, .int 0, .int 0, .int 0, .int 0, .int 0, .int 0, .int 0, .int 0, .ref cu, .ref lt, .ref od, .ref th, .ref be, .ref ln, .int 0, .ref ma, .int 0, .ref ah, .ref bh, .ref ik, .ref la, .ref lg, .ref ce, .int 0]))] s.heap.size = A at hD ⊢
  have hA : ∀ q : Nat, s.heap.size ≤ q → A q := fun q h => by rw [← hAe]; exact Or.inr h
  have hS : va_S A s.heap s.heap [] := va_S.rf
  have hl := lv_entry ([.ref h0, .int i, .int what]) (n := 3) (Nat.le_of_ble_eq_true rfl)
  rw [lg_entry_eq]
  generalize (lg_sl ([.ref h0, .int i, .int what]) ++ List.replicate (3 - (lg_sl ([.ref h0, .int i, .int what])).length) Slot.unset).toArray = ls at hl ⊢
  have hl : lv_has ls 3 [(0, .ref h0), (1, .int i), (2, .int what)] := hl
  refine lv_aload_n hx hb dX11_awake_0 rfl (lv_at hl 0 rfl) ?_
  refine lv_iload_n hx hb dX11_awake_1 rfl (lv_at hl 1 rfl) ?_
  refine lv_iconst (v := 0) hx hb dX11_awake_2 (by decide) ?_
  refine lv_iload_n hx hb dX11_awake_3 rfl (lv_at hl 2 rfl) ?_
  have hPc := hP.sub (ws' := [(h0, .inr (11, [.ref st, .int 0, .int 0, .ref rp, .int 0, .int 0, .int 0, .int 0, .int 0, .int 0, .ref tp, .int 0, .int 0, .int 0, .int 0, .int 0, .int 0, .int 0, .int 0, .ref cu, .ref lt, .ref od, .ref th, .ref be, .ref ln, .int 0, .ref ma, .int 0, .ref ah, .ref bh, .ref ik, .ref la, .ref lg, .ref ce, .int 0]))]) [0] rfl
  have hDc := hD.sub (ws' := [(h0, .inr (11, [.ref st, .int 0, .int 0, .ref rp, .int 0, .int 0, .int 0, .int 0, .int 0, .int 0, .ref tp, .int 0, .int 0, .int 0, .int 0, .int 0, .int 0, .int 0, .int 0, .ref cu, .ref lt, .ref od, .ref th, .ref be, .ref ln, .int 0, .ref ma, .int 0, .ref ah, .ref bh, .ref ik, .ref la, .ref lg, .ref ce, .int 0]))]) [0] (by decide) rfl
  have hFc := va_free (wc := [(h0, .inr (11, [.ref st, .int 0, .int 0, .ref rp, .int 0, .int 0, .int 0, .int 0, .int 0, .int 0, .ref tp, .int 0, .int 0, .int 0, .int 0, .int 0, .int 0, .int 0, .int 0, .ref cu, .ref lt, .ref od, .ref th, .ref be, .ref ln, .int 0, .ref ma, .int 0, .ref ah, .ref bh, .ref ik, .ref la, .ref lg, .ref ce, .int 0]))]) hD hS hA [0] rfl
  refine va_calll (va_runV (As := [.int i, .int 0, .int what]) (rest := []) ⟨hx, hb, hml, hown, hg⟩ (c_X11_depth l dC dI G _ h0 st rp tp cu lt od th be ln ma ah bh ik la lg ce i 0 what ) (kwV hg mfX11_depth wt_1141 ⟨Nat.le_of_ble_eq_true rfl, Nat.le_of_ble_eq_true rfl⟩) (preVW hK hPc hDc (ci := 11) rfl rfl) rfl rfl hl.1 rfl (lv_room (Nat.le_of_ble_eq_true rfl)) dX11_awake_4 ⟨Nat.le_of_ble_eq_true rfl, Nat.le_of_ble_eq_true rfl⟩) hS (fun q _ h => hFc q h) hFc (fun r1 ur1 t H1 locs ht hvm w2 hB hz1 hk1 hS => ?_)
  have hP1 := va_nilP (D := (dC, dI)) (cl := vwCl) (H := H1)
  obtain ⟨hP, hD⟩ := va_join (wr := []) (w1 := []) hP hD [0] [] rfl rfl (by decide) (by decide) hk1 hFc hP1 va_nilD
  generalize H1 = H at hP hS ⊢
  have hP : va_P (dC, dI) vwCl [] H := hP
  have hD : va_D A [] := hD
  obtain ⟨w2, w2x⟩ := w2
  have hpost : (r1 : Int64) = -1 := by
    first | rfl | ((repeat' split) <;> first | rfl | omega)
  refine W.widen (k := 0) (n := 0) (by omega) (by omega) ?_
  exact W.lret (v := r1) hx hb hr (fun t ht hW => ⟨⟨r1, (), rfl, ⟨hpost, trivial⟩, trivial⟩, hS.F ht⟩) hS.2.2 dX11_awake_7

set_option maxHeartbeats 4000000 in
set_option maxRecDepth 100000 in
theorem c_X11_best (l : Launch) (dC : Nat → ClassId) (dI : Nat → Nat → Nat) (G : Nat → ClassId) (sz : Nat) (h0 st rp tp cu lt od th be ln ma ah bh ik la lg ce : Nat) (what : Int32)    : Met l yX11_best (Cond.code yX11_best cX11_best 2 (some .long) :: GT) ({ frames := 1, cells := 0, slots := 0, locals := 30 } : Room) (PcW [.ref h0, .int what] dC dI G [(h0, .inr (11, [.ref st, .int 0, .int 0, .ref rp, .int 0, .int 0, .int 0, .int 0, .int 0, .int 0, .ref tp, .int 0, .int 0, .int 0, .int 0, .int 0, .int 0, .int 0, .int 0, .ref cu, .ref lt, .ref od, .ref th, .ref be, .ref ln, .int 0, .ref ma, .int 0, .ref ah, .ref bh, .ref ik, .ref la, .ref lg, .ref ce, .int 0])), (st, .inl (G 0, 196, .inl (fun _ => 0))), (be, .inl (G 1, 770, .inr (.inl (fun _ => 0))))] sz) (va_Ql (fun (r : Int64) (u : Unit) => match u with | _ => (r = if what.toInt = 0 then 0 else if what.toInt = 1 then 1 else -1) ∧ True) (fun _ _ => True) (va_A [(h0, .inr (11, [.ref st, .int 0, .int 0, .ref rp, .int 0, .int 0, .int 0, .int 0, .int 0, .int 0, .ref tp, .int 0, .int 0, .int 0, .int 0, .int 0, .int 0, .int 0, .int 0, .ref cu, .ref lt, .ref od, .ref th, .ref be, .ref ln, .int 0, .ref ma, .int 0, .ref ah, .ref bh, .ref ik, .ref la, .ref lg, .ref ce, .int 0])), (st, .inl (G 0, 196, .inl (fun _ => 0))), (be, .inl (G 1, 770, .inr (.inl (fun _ => 0))))] sz)) 0 0 (va_A [(h0, .inr (11, [.ref st, .int 0, .int 0, .ref rp, .int 0, .int 0, .int 0, .int 0, .int 0, .int 0, .ref tp, .int 0, .int 0, .int 0, .int 0, .int 0, .int 0, .int 0, .int 0, .ref cu, .ref lt, .ref od, .ref th, .ref be, .ref ln, .int 0, .ref ma, .int 0, .ref ah, .ref bh, .ref ik, .ref la, .ref lg, .ref ce, .int 0])), (st, .inl (G 0, 196, .inl (fun _ => 0))), (be, .inl (G 1, 770, .inr (.inl (fun _ => 0))))] sz) := by
  refine Met.ofW (cc := cX11_best) (maxL := 2) (ret := (some .long)) (by decide) rfl ?_
  intro p e s m args below meth c s₁ B hml hv
  obtain ⟨rfl, hsz, hP, hK, hD0⟩ := hv
  have hx := B.exec
  have hb := B.bytes
  have hr := B.returns
  have hg : ∀ w ∈ GT, w.before ([.ref h0, .int what] : List Value).toArray s = true := fun w h => atoms_spec (ws := Cond.code yX11_best cX11_best 2 (some .long) :: GT) B.pre w (List.mem_cons_of_mem _ h)
  have hown : s.vm.findClass RX11 = some m.cls := findClass_of_methodNamed B.named
  have hlocks := B.notSynchronized
  subst hsz
  have hD := hD0.self (sz := s.heap.size)
  generalize hAe : va_A [(h0, .inr (11, [.ref st, .int 0, .int 0, .ref rp, .int 0, .int 0, .int 0, .int 0, .int 0, .int 0, .ref tp, .int 0, .int 0, .int 0, .int 0, .int 0, .int 0, .int 0, .int 0, .ref cu, .ref lt, .ref od, .ref th, .ref be, .ref ln, .int 0, .ref ma, .int 0, .ref ah, .ref bh, .ref ik, .ref la, .ref lg, .ref ce, .int 0])), (st, .inl (G 0, 196, .inl (fun _ => 0))), (be, .inl (G 1, 770, .inr (.inl (fun _ => 0))))] s.heap.size = A at hD ⊢
  have hA : ∀ q : Nat, s.heap.size ≤ q → A q := fun q h => by rw [← hAe]; exact Or.inr h
  have hS : va_S A s.heap s.heap [] := va_S.rf
  have hl := lv_entry ([.ref h0, .int what]) (n := 2) (Nat.le_of_ble_eq_true rfl)
  rw [lg_entry_eq]
  generalize (lg_sl ([.ref h0, .int what]) ++ List.replicate (2 - (lg_sl ([.ref h0, .int what])).length) Slot.unset).toArray = ls at hl ⊢
  have hl : lv_has ls 2 [(0, .ref h0), (1, .int what)] := hl
  refine lv_iload_n hx hb dX11_best_0 rfl (lv_at hl 1 rfl) ?_
  refine lv_i2l (v := what.toInt64) hx hb dX11_best_1 rfl ?_
  refine lv_lconst (v := 0) hx hb dX11_best_2 (by decide) ?_
  refine lv_lconst (v := 1) hx hb dX11_best_3 (by decide) ?_
  have hPc := hP.sub (ws' := []) [] rfl
  refine va_calli (va_runS (As := [.long what.toInt64, .long 0, .long 1]) (rest := []) ⟨hx, hb, hml, hown, hg⟩ (c_X11_in l dC dI G _ what.toInt64 0 1 ) (kwS hg mfX11_in wt_992 ⟨Nat.le_of_ble_eq_true rfl, Nat.le_of_ble_eq_true rfl⟩) (preSR hK hPc) rfl rfl hl.1 rfl (lv_room (Nat.le_of_ble_eq_true rfl)) dX11_best_4 ⟨Nat.le_of_ble_eq_true rfl, Nat.le_of_ble_eq_true rfl⟩) hS (fun q h1 h2 => absurd h2 (Nat.not_le.mpr h1)) (fun q h => hA q (Nat.le_trans hS.1 h)) (fun r1 ur1 t H1 locs ht hvm w2 hB hz1 hk1 hS => ?_)
  have hP := keepR hP hk1
  obtain ⟨w2, w2x⟩ := w2
  try simp only [l_ii, show (0 : Int64).toInt = 0 from by decide, show (1 : Int64).toInt = 1 from by decide] at w2
  subst w2
  refine lv_if_ne (tgt := 14) hx hb dX11_best_7 (by decide) (fun c3 => ?_) (fun c3 => ?_)
  · skip
    have b4 := if10_p c3
    refine lv_aload_n hx hb dX11_best_14 rfl (lv_at hl 0 rfl) ?_
    refine lv_bipush (v := (-4)) hx hb dX11_best_15 (by decide) ?_
    have hPc := hP.sub (ws' := [(h0, .inr (11, [.ref st, .int 0, .int 0, .ref rp, .int 0, .int 0, .int 0, .int 0, .int 0, .int 0, .ref tp, .int 0, .int 0, .int 0, .int 0, .int 0, .int 0, .int 0, .int 0, .ref cu, .ref lt, .ref od, .ref th, .ref be, .ref ln, .int 0, .ref ma, .int 0, .ref ah, .ref bh, .ref ik, .ref la, .ref lg, .ref ce, .int 0])), (be, .inl (G 1, 770, .inr (.inl (fun _ => 0))))]) [0, 2] rfl
    have hDc := hD.sub (ws' := [(h0, .inr (11, [.ref st, .int 0, .int 0, .ref rp, .int 0, .int 0, .int 0, .int 0, .int 0, .int 0, .ref tp, .int 0, .int 0, .int 0, .int 0, .int 0, .int 0, .int 0, .int 0, .ref cu, .ref lt, .ref od, .ref th, .ref be, .ref ln, .int 0, .ref ma, .int 0, .ref ah, .ref bh, .ref ik, .ref la, .ref lg, .ref ce, .int 0])), (be, .inl (G 1, 770, .inr (.inl (fun _ => 0))))]) [0, 2] (by decide) rfl
    have hFc := va_free (wc := [(h0, .inr (11, [.ref st, .int 0, .int 0, .ref rp, .int 0, .int 0, .int 0, .int 0, .int 0, .int 0, .ref tp, .int 0, .int 0, .int 0, .int 0, .int 0, .int 0, .int 0, .int 0, .ref cu, .ref lt, .ref od, .ref th, .ref be, .ref ln, .int 0, .ref ma, .int 0, .ref ah, .ref bh, .ref ik, .ref la, .ref lg, .ref ce, .int 0])), (be, .inl (G 1, 770, .inr (.inl (fun _ => 0))))]) hD hS hA [0, 2] rfl
    refine va_callv (va_runV (As := [.int (-4)]) (rest := []) ⟨hx, hb, hml, hown, hg⟩ (c_X11_layBest l dC dI G _ h0 st rp tp cu lt od th be ln ma ah bh ik la lg ce (fun _ => 0) ) (kwV hg mfX11_layBest wt_1150 ⟨Nat.le_of_ble_eq_true rfl, Nat.le_of_ble_eq_true rfl⟩) (preVW hK hPc hDc (ci := 11) rfl rfl) rfl rfl hl.1 rfl (lv_room (Nat.le_of_ble_eq_true rfl)) dX11_best_17 ⟨Nat.le_of_ble_eq_true rfl, Nat.le_of_ble_eq_true rfl⟩) hS (fun q _ h => hFc q h) hFc (fun ur5 t H1 locs ht hvm w6 hB hz1 hk1 hS => ?_)
    obtain ⟨u7, rfl⟩ : ∃ z, z = ur5 := ⟨_, rfl⟩
    obtain ⟨hP1, hD1⟩ := hB
    rw [ht] at hP1
    obtain ⟨hP, hD⟩ := va_join (wr := [(st, .inl (G 0, 196, .inl (fun _ => 0)))]) (w1 := [(h0, .inr (11, [.ref st, .int 0, .int 0, .ref rp, .int 0, .int 0, .int 0, .int 0, .int 0, .int 0, .ref tp, .int 0, .int 0, .int 0, .int 0, .int 0, .int 0, .int 0, .int 0, .ref cu, .ref lt, .ref od, .ref th, .ref be, .ref ln, .int 0, .ref ma, .int 0, .ref ah, .ref bh, .ref ik, .ref la, .ref lg, .ref ce, .int 0])), (be, .inl (G 1, 770, .inr (.inl u7)))]) hP hD [0, 2] [1] rfl rfl (by decide) (by decide) hk1 hFc hP1 hD1
    generalize H1 = H at hP hS ⊢
    have hP : va_P (dC, dI) vwCl [(st, .inl (G 0, 196, .inl (fun _ => 0))), (h0, .inr (11, [.ref st, .int 0, .int 0, .ref rp, .int 0, .int 0, .int 0, .int 0, .int 0, .int 0, .ref tp, .int 0, .int 0, .int 0, .int 0, .int 0, .int 0, .int 0, .int 0, .ref cu, .ref lt, .ref od, .ref th, .ref be, .ref ln, .int 0, .ref ma, .int 0, .ref ah, .ref bh, .ref ik, .ref la, .ref lg, .ref ce, .int 0])), (be, .inl (G 1, 770, .inr (.inl u7)))] H := hP
    have hD : va_D A [(st, .inl (G 0, 196, .inl (fun _ => 0))), (h0, .inr (11, [.ref st, .int 0, .int 0, .ref rp, .int 0, .int 0, .int 0, .int 0, .int 0, .int 0, .ref tp, .int 0, .int 0, .int 0, .int 0, .int 0, .int 0, .int 0, .int 0, .ref cu, .ref lt, .ref od, .ref th, .ref be, .ref ln, .int 0, .ref ma, .int 0, .ref ah, .ref bh, .ref ik, .ref la, .ref lg, .ref ce, .int 0])), (be, .inl (G 1, 770, .inr (.inl u7)))] := hD
    refine lv_aload_n hx hb dX11_best_20 rfl (lv_at hl 0 rfl) ?_
    refine va_get (D := (dC, dI)) (ci := 11) (v := .ref be) (C := RX11) (T := TX11) (N := 35) hx hb hg inG11 hown hK.1 hP 1 rfl rfl 23 (by decide) (hg _ wt_901) (fun _ h9 => h9) rfl dX11_best_21 ?_
    refine lv_iconst (v := 0) hx hb dX11_best_24 (by decide) ?_
    refine lv_bipush (v := (-4)) hx hb dX11_best_25 (by decide) ?_
    refine lv_aload_n hx hb dX11_best_27 rfl (lv_at hl 0 rfl) ?_
    have hPc := hP.sub (ws' := [(h0, .inr (11, [.ref st, .int 0, .int 0, .ref rp, .int 0, .int 0, .int 0, .int 0, .int 0, .int 0, .ref tp, .int 0, .int 0, .int 0, .int 0, .int 0, .int 0, .int 0, .int 0, .ref cu, .ref lt, .ref od, .ref th, .ref be, .ref ln, .int 0, .ref ma, .int 0, .ref ah, .ref bh, .ref ik, .ref la, .ref lg, .ref ce, .int 0])), (st, .inl (G 0, 196, .inl (fun _ => 0)))]) [1, 0] rfl
    refine va_calli (va_runV (As := []) (rest := [.int (-4), .int 0, .ref be]) ⟨hx, hb, hml, hown, hg⟩ (c_X11_startNow l dC dI G _ h0 st rp tp cu lt od th be ln ma ah bh ik la lg ce ) (kwV hg mfX11_startNow wt_1044 ⟨Nat.le_of_ble_eq_true rfl, Nat.le_of_ble_eq_true rfl⟩) (preVR hK hPc (ci := 11) rfl rfl) rfl rfl hl.1 rfl (lv_room (Nat.le_of_ble_eq_true rfl)) dX11_best_28 ⟨Nat.le_of_ble_eq_true rfl, Nat.le_of_ble_eq_true rfl⟩) hS (fun q h1 h2 => absurd h2 (Nat.not_le.mpr h1)) (fun q h => hA q (Nat.le_trans hS.1 h)) (fun r8 ur8 t H1 locs ht hvm w9 hB hz1 hk1 hS => ?_)
    have hP := keepR hP hk1
    obtain ⟨w9, w9x⟩ := w9
    subst w9
    have hPc := hP.sub (ws' := []) [] rfl
    refine va_calli (va_runS (As := [.int 0, .int (-4), .int 5]) (rest := [.ref be]) ⟨hx, hb, hml, hown, hg⟩ (c_X11_bestAt l dC dI G _  ) (kwS hg mfX11_bestAt wt_1159 ⟨Nat.le_of_ble_eq_true rfl, Nat.le_of_ble_eq_true rfl⟩) (preSR hK hPc) rfl rfl hl.1 rfl (lv_room (Nat.le_of_ble_eq_true rfl)) dX11_best_31 ⟨Nat.le_of_ble_eq_true rfl, Nat.le_of_ble_eq_true rfl⟩) hS (fun q h1 h2 => absurd h2 (Nat.not_le.mpr h1)) (fun q h => hA q (Nat.le_trans hS.1 h)) (fun r10 ur10 t H1 locs ht hvm w11 hB hz1 hk1 hS => ?_)
    have hP := keepR hP hk1
    obtain ⟨w11, w11x⟩ := w11
    subst w11
    refine va_lald hx hb hK.1 hP 2 1 rfl rfl (vp_in_iff.mpr ⟨by decide, by decide⟩) dX11_best_34 ?_
    refine lv_cgl (y := 0) (w6) ?_
    refine lv_aload_n hx hb dX11_best_35 rfl (lv_at hl 0 rfl) ?_
    refine va_get (D := (dC, dI)) (ci := 11) (v := .int 0) (C := RX11) (T := TX11) (N := 35) hx hb hg inG11 hown hK.1 hP 1 rfl rfl 1 (by decide) (hg _ wt_879) (fun _ h9 => h9) rfl dX11_best_36 ?_
    have hPc := hP.sub (ws' := []) [] rfl
    refine va_calll (va_runS (As := [.int 0]) (rest := [.long 0]) ⟨hx, hb, hml, hown, hg⟩ (c_X11_power l dC dI G _  ) (kwS hg mfX11_power wt_1131 ⟨Nat.le_of_ble_eq_true rfl, Nat.le_of_ble_eq_true rfl⟩) (preSR hK hPc) rfl rfl hl.1 rfl (lv_room (Nat.le_of_ble_eq_true rfl)) dX11_best_39 ⟨Nat.le_of_ble_eq_true rfl, Nat.le_of_ble_eq_true rfl⟩) hS (fun q h1 h2 => absurd h2 (Nat.not_le.mpr h1)) (fun q h => hA q (Nat.le_trans hS.1 h)) (fun r12 ur12 t H1 locs ht hvm w13 hB hz1 hk1 hS => ?_)
    have hP := keepR hP hk1
    obtain ⟨w13, w13x⟩ := w13
    subst w13
    refine lv_iload_n hx hb dX11_best_42 rfl (lv_at hl 1 rfl) ?_
    have hPc := hP.sub (ws' := []) [] rfl
    refine va_calll (va_runS (As := [.long 0, .long 1, .int what]) (rest := []) ⟨hx, hb, hml, hown, hg⟩ (c_X11_lowest l dC dI G _ what ) (kwS hg mfX11_lowest wt_1134 ⟨Nat.le_of_ble_eq_true rfl, Nat.le_of_ble_eq_true rfl⟩) (preSR hK hPc) rfl rfl hl.1 rfl (lv_room (Nat.le_of_ble_eq_true rfl)) dX11_best_43 ⟨Nat.le_of_ble_eq_true rfl, Nat.le_of_ble_eq_true rfl⟩) hS (fun q h1 h2 => absurd h2 (Nat.not_le.mpr h1)) (fun q h => hA q (Nat.le_trans hS.1 h)) (fun r14 ur14 t H1 locs ht hvm w15 hB hz1 hk1 hS => ?_)
    have hP := keepR hP hk1
    obtain ⟨w15, w15x⟩ := w15
    subst w15
    have hpost : (if what.toInt = 0 then 0 else 1 : Int64) = if what.toInt = 0 then 0 else if what.toInt = 1 then 1 else -1 := by
      have t_b4 := b4
      first | rfl | ((repeat' split) <;> first | rfl | omega)
    refine W.widen (k := 0) (n := 0) (by omega) (by omega) ?_
    exact W.lret (v := if what.toInt = 0 then 0 else 1) hx hb hr (fun t ht hW => ⟨⟨if what.toInt = 0 then 0 else 1, (), rfl, ⟨hpost, trivial⟩, trivial⟩, hS.F ht⟩) hS.2.2 dX11_best_46
  · skip
    have b16 := if10_n c3
    refine lv_ldc2 (v := (-1)) hx hb hown (hg _ wt_1118) dX11_best_10 ?_
    have hpost : ((-1) : Int64) = if what.toInt = 0 then 0 else if what.toInt = 1 then 1 else -1 := by
      have t_b16 := b16
      first | rfl | ((repeat' split) <;> first | rfl | omega)
    refine W.widen (k := 0) (n := 0) (by omega) (by omega) ?_
    exact W.lret (v := (-1)) hx hb hr (fun t ht hW => ⟨⟨(-1), (), rfl, ⟨hpost, trivial⟩, trivial⟩, hS.F ht⟩) hS.2.2 dX11_best_13

set_option maxHeartbeats 4000000 in
set_option maxRecDepth 100000 in
theorem c_X11_next (l : Launch) (dC : Nat → ClassId) (dI : Nat → Nat → Nat) (G : Nat → ClassId) (sz : Nat) (h0 st rp tp cu lt od th be ln ma ah bh ik la lg ce : Nat) (i g q : Int32)    : Met l yX11_next (Cond.code yX11_next cX11_next 5 (some .int) :: GT) ({ frames := 2, cells := 0, slots := 0, locals := 46 } : Room) (PcW [.ref h0, .int i, .int g, .int q] dC dI G [(h0, .inr (11, [.ref st, .int 0, .int 0, .ref rp, .int 0, .int 0, .int 0, .int 0, .int 0, .int 0, .ref tp, .int 0, .int 0, .int 0, .int 0, .int 0, .int 0, .int 0, .int 0, .ref cu, .ref lt, .ref od, .ref th, .ref be, .ref ln, .int 0, .ref ma, .int 0, .ref ah, .ref bh, .ref ik, .ref la, .ref lg, .ref ce, .int 0]))] sz) (va_Qi (fun (r : Int32) (u : Unit) => match u with | _ => (r = -1) ∧ True) (fun _ _ => True) (va_A [(h0, .inr (11, [.ref st, .int 0, .int 0, .ref rp, .int 0, .int 0, .int 0, .int 0, .int 0, .int 0, .ref tp, .int 0, .int 0, .int 0, .int 0, .int 0, .int 0, .int 0, .int 0, .ref cu, .ref lt, .ref od, .ref th, .ref be, .ref ln, .int 0, .ref ma, .int 0, .ref ah, .ref bh, .ref ik, .ref la, .ref lg, .ref ce, .int 0]))] sz)) 0 0 (va_A [(h0, .inr (11, [.ref st, .int 0, .int 0, .ref rp, .int 0, .int 0, .int 0, .int 0, .int 0, .int 0, .ref tp, .int 0, .int 0, .int 0, .int 0, .int 0, .int 0, .int 0, .int 0, .ref cu, .ref lt, .ref od, .ref th, .ref be, .ref ln, .int 0, .ref ma, .int 0, .ref ah, .ref bh, .ref ik, .ref la, .ref lg, .ref ce, .int 0]))] sz) := by
  refine Met.ofW (cc := cX11_next) (maxL := 5) (ret := (some .int)) (by decide) rfl ?_
  intro p e s m args below meth c s₁ B hml hv
  obtain ⟨rfl, hsz, hP, hK, hD0⟩ := hv
  have hx := B.exec
  have hb := B.bytes
  have hr := B.returns
  have hg : ∀ w ∈ GT, w.before ([.ref h0, .int i, .int g, .int q] : List Value).toArray s = true := fun w h => atoms_spec (ws := Cond.code yX11_next cX11_next 5 (some .int) :: GT) B.pre w (List.mem_cons_of_mem _ h)
  have hown : s.vm.findClass RX11 = some m.cls := findClass_of_methodNamed B.named
  have hlocks := B.notSynchronized
  subst hsz
  have hD := hD0.self (sz := s.heap.size)
  generalize hAe : va_A [(h0, .inr (11, [.ref st, .int 0, .int 0, .ref rp, .int 0, .int 0, .int 0, .int 0, .int 0, .int 0, .ref tp, .int 0, .int 0, .int 0, .int 0, .int 0, .int 0, .int 0, .int 0, .ref cu, .ref lt, .ref od, .ref th, .ref be, .ref ln, .int 0, .ref ma, .int 0, .ref ah, .ref bh, .ref ik, .ref la, .ref lg, .ref ce, .int 0]))] s.heap.size = A at hD ⊢
  have hA : ∀ q : Nat, s.heap.size ≤ q → A q := fun q h => by rw [← hAe]; exact Or.inr h
  have hS : va_S A s.heap s.heap [] := va_S.rf
  have hl := lv_entry ([.ref h0, .int i, .int g, .int q]) (n := 5) (Nat.le_of_ble_eq_true rfl)
  rw [lg_entry_eq]
  generalize (lg_sl ([.ref h0, .int i, .int g, .int q]) ++ List.replicate (5 - (lg_sl ([.ref h0, .int i, .int g, .int q])).length) Slot.unset).toArray = ls at hl ⊢
  have hl : lv_has ls 5 [(0, .ref h0), (1, .int i), (2, .int g), (3, .int q)] := hl
  refine lv_aload_n hx hb dX11_next_0 rfl (lv_at hl 0 rfl) ?_
  refine lv_iload_n hx hb dX11_next_1 rfl (lv_at hl 1 rfl) ?_
  have hPc := hP.sub (ws' := [(h0, .inr (11, [.ref st, .int 0, .int 0, .ref rp, .int 0, .int 0, .int 0, .int 0, .int 0, .int 0, .ref tp, .int 0, .int 0, .int 0, .int 0, .int 0, .int 0, .int 0, .int 0, .ref cu, .ref lt, .ref od, .ref th, .ref be, .ref ln, .int 0, .ref ma, .int 0, .ref ah, .ref bh, .ref ik, .ref la, .ref lg, .ref ce, .int 0]))]) [0] rfl
  refine va_calli (va_runV (As := [.int i]) (rest := []) ⟨hx, hb, hml, hown, hg⟩ (c_X11_isStretch l dC dI G _ h0 st rp tp cu lt od th be ln ma ah bh ik la lg ce i ) (kwV hg mfX11_isStretch wt_1052 ⟨Nat.le_of_ble_eq_true rfl, Nat.le_of_ble_eq_true rfl⟩) (preVR hK hPc (ci := 11) rfl rfl) rfl rfl hl.1 rfl (lv_room (Nat.le_of_ble_eq_true rfl)) dX11_next_2 ⟨Nat.le_of_ble_eq_true rfl, Nat.le_of_ble_eq_true rfl⟩) hS (fun q h1 h2 => absurd h2 (Nat.not_le.mpr h1)) (fun q h => hA q (Nat.le_trans hS.1 h)) (fun r1 ur1 t H1 locs ht hvm w2 hB hz1 hk1 hS => ?_)
  have hP := keepR hP hk1
  obtain ⟨w2, w2x⟩ := w2
  subst w2
  refine lv_if_eq (tgt := 38) hx hb dX11_next_5 (by decide) (fun c3 => ?_) (fun c3 => ?_)
  · skip
    refine lv_iconst (v := (-1)) hx hb dX11_next_38 (by decide) ?_
    have hpost : ((-1) : Int32) = -1 := by
      have t_c3 := eqI c3
      have : (0 : Int32).toInt = 0 := (by decide)
      first | rfl | ((repeat' split) <;> first | rfl | omega)
    refine W.widen (k := 0) (n := 0) (by omega) (by omega) ?_
    exact W.iret (v := (-1)) hx hb hr (fun t ht hW => ⟨⟨(-1), (), rfl, ⟨hpost, trivial⟩, trivial⟩, hS.F ht⟩) hS.2.2 dX11_next_39
  · skip
    exact absurd c3 (by decide)

set_option maxHeartbeats 4000000 in
set_option maxRecDepth 100000 in
theorem c_X11_without (l : Launch) (dC : Nat → ClassId) (dI : Nat → Nat → Nat) (G : Nat → ClassId) (sz : Nat) (h0 st rp tp cu lt od th be ln ma ah bh ik la lg ce : Nat) (i what : Int32)    : Met l yX11_without (Cond.code yX11_without cX11_without 3 (some .long) :: GT) ({ frames := 2, cells := 0, slots := 0, locals := 46 } : Room) (PcW [.ref h0, .int i, .int what] dC dI G [(h0, .inr (11, [.ref st, .int 0, .int 0, .ref rp, .int 0, .int 0, .int 0, .int 0, .int 0, .int 0, .ref tp, .int 0, .int 0, .int 0, .int 0, .int 0, .int 0, .int 0, .int 0, .ref cu, .ref lt, .ref od, .ref th, .ref be, .ref ln, .int 0, .ref ma, .int 0, .ref ah, .ref bh, .ref ik, .ref la, .ref lg, .ref ce, .int 0]))] sz) (va_Ql (fun (r : Int64) (u : Unit) => match u with | _ => (r = -1) ∧ True) (fun _ _ => True) (va_A [(h0, .inr (11, [.ref st, .int 0, .int 0, .ref rp, .int 0, .int 0, .int 0, .int 0, .int 0, .int 0, .ref tp, .int 0, .int 0, .int 0, .int 0, .int 0, .int 0, .int 0, .int 0, .ref cu, .ref lt, .ref od, .ref th, .ref be, .ref ln, .int 0, .ref ma, .int 0, .ref ah, .ref bh, .ref ik, .ref la, .ref lg, .ref ce, .int 0]))] sz)) 0 0 (va_A [(h0, .inr (11, [.ref st, .int 0, .int 0, .ref rp, .int 0, .int 0, .int 0, .int 0, .int 0, .int 0, .ref tp, .int 0, .int 0, .int 0, .int 0, .int 0, .int 0, .int 0, .int 0, .ref cu, .ref lt, .ref od, .ref th, .ref be, .ref ln, .int 0, .ref ma, .int 0, .ref ah, .ref bh, .ref ik, .ref la, .ref lg, .ref ce, .int 0]))] sz) := by
  refine Met.ofW (cc := cX11_without) (maxL := 3) (ret := (some .long)) (by decide) rfl ?_
  intro p e s m args below meth c s₁ B hml hv
  obtain ⟨rfl, hsz, hP, hK, hD0⟩ := hv
  have hx := B.exec
  have hb := B.bytes
  have hr := B.returns
  have hg : ∀ w ∈ GT, w.before ([.ref h0, .int i, .int what] : List Value).toArray s = true := fun w h => atoms_spec (ws := Cond.code yX11_without cX11_without 3 (some .long) :: GT) B.pre w (List.mem_cons_of_mem _ h)
  have hown : s.vm.findClass RX11 = some m.cls := findClass_of_methodNamed B.named
  have hlocks := B.notSynchronized
  subst hsz
  have hD := hD0.self (sz := s.heap.size)
  generalize hAe : va_A [(h0, .inr (11, [.ref st, .int 0, .int 0, .ref rp, .int 0, .int 0, .int 0, .int 0, .int 0, .int 0, .ref tp, .int 0, .int 0, .int 0, .int 0, .int 0, .int 0, .int 0, .int 0, .ref cu, .ref lt, .ref od, .ref th, .ref be, .ref ln, .int 0, .ref ma, .int 0, .ref ah, .ref bh, .ref ik, .ref la, .ref lg, .ref ce, .int 0]))] s.heap.size = A at hD ⊢
  have hA : ∀ q : Nat, s.heap.size ≤ q → A q := fun q h => by rw [← hAe]; exact Or.inr h
  have hS : va_S A s.heap s.heap [] := va_S.rf
  have hl := lv_entry ([.ref h0, .int i, .int what]) (n := 3) (Nat.le_of_ble_eq_true rfl)
  rw [lg_entry_eq]
  generalize (lg_sl ([.ref h0, .int i, .int what]) ++ List.replicate (3 - (lg_sl ([.ref h0, .int i, .int what])).length) Slot.unset).toArray = ls at hl ⊢
  have hl : lv_has ls 3 [(0, .ref h0), (1, .int i), (2, .int what)] := hl
  refine lv_aload_n hx hb dX11_without_0 rfl (lv_at hl 0 rfl) ?_
  refine lv_iload_n hx hb dX11_without_1 rfl (lv_at hl 1 rfl) ?_
  have hPc := hP.sub (ws' := [(h0, .inr (11, [.ref st, .int 0, .int 0, .ref rp, .int 0, .int 0, .int 0, .int 0, .int 0, .int 0, .ref tp, .int 0, .int 0, .int 0, .int 0, .int 0, .int 0, .int 0, .int 0, .ref cu, .ref lt, .ref od, .ref th, .ref be, .ref ln, .int 0, .ref ma, .int 0, .ref ah, .ref bh, .ref ik, .ref la, .ref lg, .ref ce, .int 0]))]) [0] rfl
  refine va_calli (va_runV (As := [.int i]) (rest := []) ⟨hx, hb, hml, hown, hg⟩ (c_X11_isBearer l dC dI G _ h0 st rp tp cu lt od th be ln ma ah bh ik la lg ce i ) (kwV hg mfX11_isBearer wt_1061 ⟨Nat.le_of_ble_eq_true rfl, Nat.le_of_ble_eq_true rfl⟩) (preVR hK hPc (ci := 11) rfl rfl) rfl rfl hl.1 rfl (lv_room (Nat.le_of_ble_eq_true rfl)) dX11_without_2 ⟨Nat.le_of_ble_eq_true rfl, Nat.le_of_ble_eq_true rfl⟩) hS (fun q h1 h2 => absurd h2 (Nat.not_le.mpr h1)) (fun q h => hA q (Nat.le_trans hS.1 h)) (fun r1 ur1 t H1 locs ht hvm w2 hB hz1 hk1 hS => ?_)
  have hP := keepR hP hk1
  obtain ⟨w2, w2x⟩ := w2
  subst w2
  refine lv_if_eq (tgt := 18) hx hb dX11_without_5 (by decide) (fun c3 => ?_) (fun c3 => ?_)
  · skip
    refine lv_ldc2 (v := (-1)) hx hb hown (hg _ wt_1118) dX11_without_18 ?_
    have hpost : ((-1) : Int64) = -1 := by
      have t_c3 := eqI c3
      have : (0 : Int32).toInt = 0 := (by decide)
      first | rfl | ((repeat' split) <;> first | rfl | omega)
    refine W.widen (k := 0) (n := 0) (by omega) (by omega) ?_
    exact W.lret (v := (-1)) hx hb hr (fun t ht hW => ⟨⟨(-1), (), rfl, ⟨hpost, trivial⟩, trivial⟩, hS.F ht⟩) hS.2.2 dX11_without_21
  · skip
    exact absurd c3 (by decide)

set_option maxHeartbeats 4000000 in
set_option maxRecDepth 100000 in
theorem c_X11_quiet (l : Launch) (dC : Nat → ClassId) (dI : Nat → Nat → Nat) (G : Nat → ClassId) (sz : Nat) (h0 st rp tp cu lt od th be ln ma ah bh ik la lg ce : Nat) (mm what : Int32)    : Met l yX11_quiet (Cond.code yX11_quiet cX11_quiet 7 (some .long) :: GT) ({ frames := 2, cells := 0, slots := 0, locals := 47 } : Room) (PcW [.ref h0, .int mm, .int what] dC dI G [(h0, .inr (11, [.ref st, .int 0, .int 0, .ref rp, .int 0, .int 0, .int 0, .int 0, .int 0, .int 0, .ref tp, .int 0, .int 0, .int 0, .int 0, .int 0, .int 0, .int 0, .int 0, .ref cu, .ref lt, .ref od, .ref th, .ref be, .ref ln, .int 0, .ref ma, .int 0, .ref ah, .ref bh, .ref ik, .ref la, .ref lg, .ref ce, .int 0])), (st, .inl (G 0, 196, .inl (fun _ => 0))), (od, .inl (G 1, 10, .inr (.inl (fun _ => 0))))] sz) (va_Ql (fun (r : Int64) (u : Unit) => match u with | _ => (r = if 0 ≤ mm.toInt ∧ mm.toInt ≤ 4 then (if what.toInt = 0 then 0 else if what.toInt = 1 then 1 else if what.toInt = 2 then 0 else -1) else -1) ∧ True) (fun _ _ => True) (va_A [(h0, .inr (11, [.ref st, .int 0, .int 0, .ref rp, .int 0, .int 0, .int 0, .int 0, .int 0, .int 0, .ref tp, .int 0, .int 0, .int 0, .int 0, .int 0, .int 0, .int 0, .int 0, .ref cu, .ref lt, .ref od, .ref th, .ref be, .ref ln, .int 0, .ref ma, .int 0, .ref ah, .ref bh, .ref ik, .ref la, .ref lg, .ref ce, .int 0])), (st, .inl (G 0, 196, .inl (fun _ => 0))), (od, .inl (G 1, 10, .inr (.inl (fun _ => 0))))] sz)) 0 0 (va_A [(h0, .inr (11, [.ref st, .int 0, .int 0, .ref rp, .int 0, .int 0, .int 0, .int 0, .int 0, .int 0, .ref tp, .int 0, .int 0, .int 0, .int 0, .int 0, .int 0, .int 0, .int 0, .ref cu, .ref lt, .ref od, .ref th, .ref be, .ref ln, .int 0, .ref ma, .int 0, .ref ah, .ref bh, .ref ik, .ref la, .ref lg, .ref ce, .int 0])), (st, .inl (G 0, 196, .inl (fun _ => 0))), (od, .inl (G 1, 10, .inr (.inl (fun _ => 0))))] sz) := by
  refine Met.ofW (cc := cX11_quiet) (maxL := 7) (ret := (some .long)) (by decide) rfl ?_
  intro p e s m args below meth c s₁ B hml hv
  obtain ⟨rfl, hsz, hP, hK, hD0⟩ := hv
  have hx := B.exec
  have hb := B.bytes
  have hr := B.returns
  have hg : ∀ w ∈ GT, w.before ([.ref h0, .int mm, .int what] : List Value).toArray s = true := fun w h => atoms_spec (ws := Cond.code yX11_quiet cX11_quiet 7 (some .long) :: GT) B.pre w (List.mem_cons_of_mem _ h)
  have hown : s.vm.findClass RX11 = some m.cls := findClass_of_methodNamed B.named
  have hlocks := B.notSynchronized
  subst hsz
  have hD := hD0.self (sz := s.heap.size)
  generalize hAe : va_A [(h0, .inr (11, [.ref st, .int 0, .int 0, .ref rp, .int 0, .int 0, .int 0, .int 0, .int 0, .int 0, .ref tp, .int 0, .int 0, .int 0, .int 0, .int 0, .int 0, .int 0, .int 0, .ref cu, .ref lt, .ref od, .ref th, .ref be, .ref ln, .int 0, .ref ma, .int 0, .ref ah, .ref bh, .ref ik, .ref la, .ref lg, .ref ce, .int 0])), (st, .inl (G 0, 196, .inl (fun _ => 0))), (od, .inl (G 1, 10, .inr (.inl (fun _ => 0))))] s.heap.size = A at hD ⊢
  have hA : ∀ q : Nat, s.heap.size ≤ q → A q := fun q h => by rw [← hAe]; exact Or.inr h
  have hS : va_S A s.heap s.heap [] := va_S.rf
  have hl := lv_entry ([.ref h0, .int mm, .int what]) (n := 7) (Nat.le_of_ble_eq_true rfl)
  rw [lg_entry_eq]
  generalize (lg_sl ([.ref h0, .int mm, .int what]) ++ List.replicate (7 - (lg_sl ([.ref h0, .int mm, .int what])).length) Slot.unset).toArray = ls at hl ⊢
  have hl : lv_has ls 7 [(0, .ref h0), (1, .int mm), (2, .int what)] := hl
  refine lv_iload_n hx hb dX11_quiet_0 rfl (lv_at hl 1 rfl) ?_
  refine lv_i2l (v := mm.toInt64) hx hb dX11_quiet_1 rfl ?_
  refine lv_lconst (v := 0) hx hb dX11_quiet_2 (by decide) ?_
  refine lv_ldc2 (v := 4) hx hb hown (hg _ wt_1175) dX11_quiet_3 ?_
  have hPc := hP.sub (ws' := []) [] rfl
  refine va_calli (va_runS (As := [.long mm.toInt64, .long 0, .long 4]) (rest := []) ⟨hx, hb, hml, hown, hg⟩ (c_X11_in l dC dI G _ mm.toInt64 0 4 ) (kwS hg mfX11_in wt_992 ⟨Nat.le_of_ble_eq_true rfl, Nat.le_of_ble_eq_true rfl⟩) (preSR hK hPc) rfl rfl hl.1 rfl (lv_room (Nat.le_of_ble_eq_true rfl)) dX11_quiet_6 ⟨Nat.le_of_ble_eq_true rfl, Nat.le_of_ble_eq_true rfl⟩) hS (fun q h1 h2 => absurd h2 (Nat.not_le.mpr h1)) (fun q h => hA q (Nat.le_trans hS.1 h)) (fun r1 ur1 t H1 locs ht hvm w2 hB hz1 hk1 hS => ?_)
  have hP := keepR hP hk1
  obtain ⟨w2, w2x⟩ := w2
  try simp only [l_ii, show (0 : Int64).toInt = 0 from by decide, show (4 : Int64).toInt = 4 from by decide] at w2
  subst w2
  refine lv_if_eq (tgt := 24) hx hb dX11_quiet_9 (by decide) (fun c3 => ?_) (fun c3 => ?_)
  · skip
    have b4 := if10_n c3
    refine lv_ldc2 (v := (-1)) hx hb hown (hg _ wt_1118) dX11_quiet_24 ?_
    have hpost : ((-1) : Int64) = if 0 ≤ mm.toInt ∧ mm.toInt ≤ 4 then (if what.toInt = 0 then 0 else if what.toInt = 1 then 1 else if what.toInt = 2 then 0 else -1) else -1 := by
      have t_b4 := b4
      first | rfl | ((repeat' split) <;> first | rfl | omega)
    refine W.widen (k := 0) (n := 0) (by omega) (by omega) ?_
    exact W.lret (v := (-1)) hx hb hr (fun t ht hW => ⟨⟨(-1), (), rfl, ⟨hpost, trivial⟩, trivial⟩, hS.F ht⟩) hS.2.2 dX11_quiet_27
  · skip
    have b5 := if10_p c3
    refine lv_iload_n hx hb dX11_quiet_12 rfl (lv_at hl 2 rfl) ?_
    refine lv_i2l (v := what.toInt64) hx hb dX11_quiet_13 rfl ?_
    refine lv_lconst (v := 0) hx hb dX11_quiet_14 (by decide) ?_
    refine lv_ldc2 (v := 2) hx hb hown (hg _ wt_1056) dX11_quiet_15 ?_
    have hPc := hP.sub (ws' := []) [] rfl
    refine va_calli (va_runS (As := [.long what.toInt64, .long 0, .long 2]) (rest := []) ⟨hx, hb, hml, hown, hg⟩ (c_X11_in l dC dI G _ what.toInt64 0 2 ) (kwS hg mfX11_in wt_992 ⟨Nat.le_of_ble_eq_true rfl, Nat.le_of_ble_eq_true rfl⟩) (preSR hK hPc) rfl rfl hl.1 rfl (lv_room (Nat.le_of_ble_eq_true rfl)) dX11_quiet_18 ⟨Nat.le_of_ble_eq_true rfl, Nat.le_of_ble_eq_true rfl⟩) hS (fun q h1 h2 => absurd h2 (Nat.not_le.mpr h1)) (fun q h => hA q (Nat.le_trans hS.1 h)) (fun r6 ur6 t H1 locs ht hvm w7 hB hz1 hk1 hS => ?_)
    have hP := keepR hP hk1
    obtain ⟨w7, w7x⟩ := w7
    try simp only [l_ii, show (0 : Int64).toInt = 0 from by decide, show (2 : Int64).toInt = 2 from by decide] at w7
    subst w7
    refine lv_if_ne (tgt := 28) hx hb dX11_quiet_21 (by decide) (fun c8 => ?_) (fun c8 => ?_)
    · skip
      have b9 := if10_p c8
      refine lv_ldc2 (v := 4000000000000000000) hx hb hown (hg _ wt_1154) dX11_quiet_28 ?_
      refine lv_lstore_n (lv' := [(3, .long 4000000000000000000), (0, .ref h0), (1, .int mm), (2, .int what)]) hx hb dX11_quiet_31 rfl hl (by decide) rfl (fun ls hl => ?_)
      refine lv_iconst (v := 0) hx hb dX11_quiet_32 (by decide) ?_
      refine lv_istore (lv' := [(5, .int 0), (3, .long 4000000000000000000), (0, .ref h0), (1, .int mm), (2, .int what)]) hx hb dX11_quiet_33 hl (by decide) rfl (fun ls hl => ?_)
      refine lv_iconst (v := 0) hx hb dX11_quiet_35 (by decide) ?_
      refine lv_istore (lv' := [(6, .int 0), (5, .int 0), (3, .long 4000000000000000000), (0, .ref h0), (1, .int mm), (2, .int what)]) hx hb dX11_quiet_36 hl (by decide) rfl (fun ls hl => ?_)
      refine lv_iload hx hb dX11_quiet_38 (lv_at hl 0 rfl) ?_
      refine lv_iconst (v := 1) hx hb dX11_quiet_40 (by decide) ?_
      refine lv_aload_n hx hb dX11_quiet_41 rfl (lv_at hl 3 rfl) ?_
      refine va_get (D := (dC, dI)) (ci := 11) (v := .int 0) (C := RX11) (T := TX11) (N := 35) hx hb hg inG11 hown hK.1 hP 0 rfl rfl 1 (by decide) (hg _ wt_879) (fun _ h9 => h9) rfl dX11_quiet_42 ?_
      refine lv_ishl hx hb dX11_quiet_45 ?_
      refine lv_cg (y := 1) (by decide) ?_
      refine lv_icmp_ge (tgt := 122) hx hb dX11_quiet_46 (by decide) (fun c10 => ?_) (fun c10 => ?_)
      · skip
        exact absurd c10 (by decide)
      · skip
        refine lv_iload hx hb dX11_quiet_49 (lv_at hl 0 rfl) ?_
        have hPc := hP.sub (ws' := []) [] rfl
        refine va_calli (va_runS (As := [.int 0]) (rest := []) ⟨hx, hb, hml, hown, hg⟩ (c_X11_bitsOf l dC dI G _  ) (kwS hg mfX11_bitsOf wt_1176 ⟨Nat.le_of_ble_eq_true rfl, Nat.le_of_ble_eq_true rfl⟩) (preSR hK hPc) rfl rfl hl.1 rfl (lv_room (Nat.le_of_ble_eq_true rfl)) dX11_quiet_51 ⟨Nat.le_of_ble_eq_true rfl, Nat.le_of_ble_eq_true rfl⟩) hS (fun q h1 h2 => absurd h2 (Nat.not_le.mpr h1)) (fun q h => hA q (Nat.le_trans hS.1 h)) (fun r11 ur11 t H1 locs ht hvm w12 hB hz1 hk1 hS => ?_)
        have hP := keepR hP hk1
        obtain ⟨w12, w12x⟩ := w12
        subst w12
        refine lv_iload_n hx hb dX11_quiet_54 rfl (lv_at hl 4 rfl) ?_
        refine lv_icmp_gt (tgt := 116) hx hb dX11_quiet_55 (by decide) (fun c13 => ?_) (fun c13 => ?_)
        · skip
          have t_b5 := b5
          have t_b9 := b9
          have t_c10 := nleI c10
          have t_c13 := ltI c13
          have : (0 : Int32).toInt = 0 := (by decide)
          have : (1 : Int32).toInt = 1 := (by decide)
          exfalso; omega
        · skip
          refine lv_aload_n hx hb dX11_quiet_58 rfl (lv_at hl 3 rfl) ?_
          refine lv_aload_n hx hb dX11_quiet_59 rfl (lv_at hl 3 rfl) ?_
          refine va_get (D := (dC, dI)) (ci := 11) (v := .int 0) (C := RX11) (T := TX11) (N := 35) hx hb hg inG11 hown hK.1 hP 0 rfl rfl 1 (by decide) (hg _ wt_879) (fun _ h9 => h9) rfl dX11_quiet_60 ?_
          refine lv_iload hx hb dX11_quiet_63 (lv_at hl 0 rfl) ?_
          refine lv_bipush (v := (-4)) hx hb dX11_quiet_65 (by decide) ?_
          have hPc := hP.sub (ws' := [(h0, .inr (11, [.ref st, .int 0, .int 0, .ref rp, .int 0, .int 0, .int 0, .int 0, .int 0, .int 0, .ref tp, .int 0, .int 0, .int 0, .int 0, .int 0, .int 0, .int 0, .int 0, .ref cu, .ref lt, .ref od, .ref th, .ref be, .ref ln, .int 0, .ref ma, .int 0, .ref ah, .ref bh, .ref ik, .ref la, .ref lg, .ref ce, .int 0])), (st, .inl (G 0, 196, .inl (fun _ => 0))), (od, .inl (G 1, 10, .inr (.inl (fun _ => 0))))]) [0, 1, 2] rfl
          have hDc := hD.sub (ws' := [(h0, .inr (11, [.ref st, .int 0, .int 0, .ref rp, .int 0, .int 0, .int 0, .int 0, .int 0, .int 0, .ref tp, .int 0, .int 0, .int 0, .int 0, .int 0, .int 0, .int 0, .int 0, .ref cu, .ref lt, .ref od, .ref th, .ref be, .ref ln, .int 0, .ref ma, .int 0, .ref ah, .ref bh, .ref ik, .ref la, .ref lg, .ref ce, .int 0])), (st, .inl (G 0, 196, .inl (fun _ => 0))), (od, .inl (G 1, 10, .inr (.inl (fun _ => 0))))]) [0, 1, 2] (by decide) rfl
          have hFc := va_free (wc := [(h0, .inr (11, [.ref st, .int 0, .int 0, .ref rp, .int 0, .int 0, .int 0, .int 0, .int 0, .int 0, .ref tp, .int 0, .int 0, .int 0, .int 0, .int 0, .int 0, .int 0, .int 0, .ref cu, .ref lt, .ref od, .ref th, .ref be, .ref ln, .int 0, .ref ma, .int 0, .ref ah, .ref bh, .ref ik, .ref la, .ref lg, .ref ce, .int 0])), (st, .inl (G 0, 196, .inl (fun _ => 0))), (od, .inl (G 1, 10, .inr (.inl (fun _ => 0))))]) hD hS hA [0, 1, 2] rfl
          refine va_callv (va_runV (As := [.int 0, .int 0, .int (-4)]) (rest := []) ⟨hx, hb, hml, hown, hg⟩ (c_X11_layOdds l dC dI G _ h0 st rp tp cu lt od th be ln ma ah bh ik la lg ce 0 (-4) (fun _ => 0) ) (kwV hg mfX11_layOdds wt_1119 ⟨Nat.le_of_ble_eq_true rfl, Nat.le_of_ble_eq_true rfl⟩) (preVW hK hPc hDc (ci := 11) rfl rfl) rfl rfl hl.1 rfl (lv_room (Nat.le_of_ble_eq_true rfl)) dX11_quiet_67 ⟨Nat.le_of_ble_eq_true rfl, Nat.le_of_ble_eq_true rfl⟩) hS (fun q _ h => hFc q h) hFc (fun ur14 t H1 locs ht hvm w15 hB hz1 hk1 hS => ?_)
          obtain ⟨u16, rfl⟩ : ∃ z, z = ur14 := ⟨_, rfl⟩
          obtain ⟨hP1, hD1⟩ := hB
          rw [ht] at hP1
          obtain ⟨hP, hD⟩ := va_join (wr := []) (w1 := [(h0, .inr (11, [.ref st, .int 0, .int 0, .ref rp, .int 0, .int 0, .int 0, .int 0, .int 0, .int 0, .ref tp, .int 0, .int 0, .int 0, .int 0, .int 0, .int 0, .int 0, .int 0, .ref cu, .ref lt, .ref od, .ref th, .ref be, .ref ln, .int 0, .ref ma, .int 0, .ref ah, .ref bh, .ref ik, .ref la, .ref lg, .ref ce, .int 0])), (st, .inl (G 0, 196, .inl (fun _ => 0))), (od, .inl (G 1, 10, .inr (.inl u16)))]) hP hD [0, 1, 2] [] rfl rfl (by decide) (by decide) hk1 hFc hP1 hD1
          generalize H1 = H at hP hS ⊢
          have hP : va_P (dC, dI) vwCl [(h0, .inr (11, [.ref st, .int 0, .int 0, .ref rp, .int 0, .int 0, .int 0, .int 0, .int 0, .int 0, .ref tp, .int 0, .int 0, .int 0, .int 0, .int 0, .int 0, .int 0, .int 0, .ref cu, .ref lt, .ref od, .ref th, .ref be, .ref ln, .int 0, .ref ma, .int 0, .ref ah, .ref bh, .ref ik, .ref la, .ref lg, .ref ce, .int 0])), (st, .inl (G 0, 196, .inl (fun _ => 0))), (od, .inl (G 1, 10, .inr (.inl u16)))] H := hP
          have hD : va_D A [(h0, .inr (11, [.ref st, .int 0, .int 0, .ref rp, .int 0, .int 0, .int 0, .int 0, .int 0, .int 0, .ref tp, .int 0, .int 0, .int 0, .int 0, .int 0, .int 0, .int 0, .int 0, .ref cu, .ref lt, .ref od, .ref th, .ref be, .ref ln, .int 0, .ref ma, .int 0, .ref ah, .ref bh, .ref ik, .ref la, .ref lg, .ref ce, .int 0])), (st, .inl (G 0, 196, .inl (fun _ => 0))), (od, .inl (G 1, 10, .inr (.inl u16)))] := hD
          refine lv_aload_n hx hb dX11_quiet_70 rfl (lv_at hl 3 rfl) ?_
          refine va_get (D := (dC, dI)) (ci := 11) (v := .ref od) (C := RX11) (T := TX11) (N := 35) hx hb hg inG11 hown hK.1 hP 0 rfl rfl 21 (by decide) (hg _ wt_899) (fun _ h9 => h9) rfl dX11_quiet_71 ?_
          refine lv_iconst (v := 0) hx hb dX11_quiet_74 (by decide) ?_
          refine va_lald hx hb hK.1 hP 2 1 rfl rfl (vp_in_iff.mpr ⟨by decide, by decide⟩) dX11_quiet_75 ?_
          refine lv_cgl (y := 0) (w15) ?_
          refine lv_lload_n hx hb dX11_quiet_76 rfl (lv_at hl 2 rfl) ?_
          refine W.lcmp hx hb dX11_quiet_77 ?_
          refine lv_cg (y := (-1)) (by decide) ?_
          refine lv_if_lt (tgt := 105) hx hb dX11_quiet_78 (by decide) (fun c17 => ?_) (fun c17 => ?_)
          · skip
            refine lv_aload_n hx hb dX11_quiet_105 rfl (lv_at hl 3 rfl) ?_
            refine va_get (D := (dC, dI)) (ci := 11) (v := .ref od) (C := RX11) (T := TX11) (N := 35) hx hb hg inG11 hown hK.1 hP 0 rfl rfl 21 (by decide) (hg _ wt_899) (fun _ h9 => h9) rfl dX11_quiet_106 ?_
            refine lv_iconst (v := 0) hx hb dX11_quiet_109 (by decide) ?_
            refine va_lald hx hb hK.1 hP 2 1 rfl rfl (vp_in_iff.mpr ⟨by decide, by decide⟩) dX11_quiet_110 ?_
            refine lv_cgl (y := 0) (w15) ?_
            refine lv_lstore_n (lv' := [(3, .long 0), (6, .int 0), (5, .int 0), (0, .ref h0), (1, .int mm), (2, .int what)]) hx hb dX11_quiet_111 rfl hl (by decide) rfl (fun ls hl => ?_)
            refine lv_iload hx hb dX11_quiet_112 (lv_at hl 1 rfl) ?_
            refine lv_istore (lv' := [(5, .int 0), (3, .long 0), (6, .int 0), (0, .ref h0), (1, .int mm), (2, .int what)]) hx hb dX11_quiet_114 hl (by decide) rfl (fun ls hl => ?_)
            refine lv_iinc (v := 1) (lv' := [(6, .int 1), (5, .int 0), (3, .long 0), (0, .ref h0), (1, .int mm), (2, .int what)]) hx hb dX11_quiet_116 hl (k := 2) rfl (by decide) (by decide) rfl (fun ls hl => ?_)
            refine lv_goto (tgt := 38) hx hb dX11_quiet_119 (by decide) ?_
            refine lv_iload hx hb dX11_quiet_38 (lv_at hl 0 rfl) ?_
            refine lv_iconst (v := 1) hx hb dX11_quiet_40 (by decide) ?_
            refine lv_aload_n hx hb dX11_quiet_41 rfl (lv_at hl 3 rfl) ?_
            refine va_get (D := (dC, dI)) (ci := 11) (v := .int 0) (C := RX11) (T := TX11) (N := 35) hx hb hg inG11 hown hK.1 hP 0 rfl rfl 1 (by decide) (hg _ wt_879) (fun _ h9 => h9) rfl dX11_quiet_42 ?_
            refine lv_ishl hx hb dX11_quiet_45 ?_
            refine lv_cg (y := 1) (by decide) ?_
            refine lv_icmp_ge (tgt := 122) hx hb dX11_quiet_46 (by decide) (fun c18 => ?_) (fun c18 => ?_)
            · skip
              refine lv_iload_n hx hb dX11_quiet_122 rfl (lv_at hl 5 rfl) ?_
              refine lv_iconst (v := 2) hx hb dX11_quiet_123 (by decide) ?_
              refine lv_icmp_ne (tgt := 133) hx hb dX11_quiet_124 (by decide) (fun c19 => ?_) (fun c19 => ?_)
              · skip
                refine lv_lload_n hx hb dX11_quiet_133 rfl (lv_at hl 2 rfl) ?_
                refine lv_aload_n hx hb dX11_quiet_134 rfl (lv_at hl 3 rfl) ?_
                refine va_get (D := (dC, dI)) (ci := 11) (v := .int 0) (C := RX11) (T := TX11) (N := 35) hx hb hg inG11 hown hK.1 hP 0 rfl rfl 1 (by decide) (hg _ wt_879) (fun _ h9 => h9) rfl dX11_quiet_135 ?_
                have hPc := hP.sub (ws' := []) [] rfl
                refine va_calll (va_runS (As := [.int 0]) (rest := [.long 0]) ⟨hx, hb, hml, hown, hg⟩ (c_X11_power l dC dI G _  ) (kwS hg mfX11_power wt_1131 ⟨Nat.le_of_ble_eq_true rfl, Nat.le_of_ble_eq_true rfl⟩) (preSR hK hPc) rfl rfl hl.1 rfl (lv_room (Nat.le_of_ble_eq_true rfl)) dX11_quiet_138 ⟨Nat.le_of_ble_eq_true rfl, Nat.le_of_ble_eq_true rfl⟩) hS (fun q h1 h2 => absurd h2 (Nat.not_le.mpr h1)) (fun q h => hA q (Nat.le_trans hS.1 h)) (fun r20 ur20 t H1 locs ht hvm w21 hB hz1 hk1 hS => ?_)
                have hP := keepR hP hk1
                obtain ⟨w21, w21x⟩ := w21
                subst w21
                refine lv_iload_n hx hb dX11_quiet_141 rfl (lv_at hl 5 rfl) ?_
                have hPc := hP.sub (ws' := []) [] rfl
                refine va_calll (va_runS (As := [.long 0, .long 1, .int what]) (rest := []) ⟨hx, hb, hml, hown, hg⟩ (c_X11_lowest l dC dI G _ what ) (kwS hg mfX11_lowest wt_1134 ⟨Nat.le_of_ble_eq_true rfl, Nat.le_of_ble_eq_true rfl⟩) (preSR hK hPc) rfl rfl hl.1 rfl (lv_room (Nat.le_of_ble_eq_true rfl)) dX11_quiet_142 ⟨Nat.le_of_ble_eq_true rfl, Nat.le_of_ble_eq_true rfl⟩) hS (fun q h1 h2 => absurd h2 (Nat.not_le.mpr h1)) (fun q h => hA q (Nat.le_trans hS.1 h)) (fun r22 ur22 t H1 locs ht hvm w23 hB hz1 hk1 hS => ?_)
                have hP := keepR hP hk1
                obtain ⟨w23, w23x⟩ := w23
                subst w23
                have hpost : (if what.toInt = 0 then 0 else 1 : Int64) = if 0 ≤ mm.toInt ∧ mm.toInt ≤ 4 then (if what.toInt = 0 then 0 else if what.toInt = 1 then 1 else if what.toInt = 2 then 0 else -1) else -1 := by
                  have t_b5 := b5
                  have t_b9 := b9
                  have t_c10 := nleI c10
                  have t_c13 := nltI c13
                  have t_c17 := ltI c17
                  have t_c18 := leI c18
                  have t_c19 := neI c19
                  have : ((-1) : Int32).toInt = -1 := (by decide)
                  have : (0 : Int32).toInt = 0 := (by decide)
                  have : (1 : Int32).toInt = 1 := (by decide)
                  have : (2 : Int32).toInt = 2 := (by decide)
                  first | rfl | ((repeat' split) <;> first | rfl | omega)
                refine W.widen (k := 0) (n := 0) (by omega) (by omega) ?_
                exact W.lret (v := if what.toInt = 0 then 0 else 1) hx hb hr (fun t ht hW => ⟨⟨if what.toInt = 0 then 0 else 1, (), rfl, ⟨hpost, trivial⟩, trivial⟩, hS.F ht⟩) hS.2.2 dX11_quiet_145
              · skip
                refine lv_iload hx hb dX11_quiet_127 (lv_at hl 1 rfl) ?_
                refine lv_i2l (v := 0) hx hb dX11_quiet_129 (by decide) ?_
                refine lv_goto (tgt := 145) hx hb dX11_quiet_130 (by decide) ?_
                have hpost : (0 : Int64) = if 0 ≤ mm.toInt ∧ mm.toInt ≤ 4 then (if what.toInt = 0 then 0 else if what.toInt = 1 then 1 else if what.toInt = 2 then 0 else -1) else -1 := by
                  have t_b5 := b5
                  have t_b9 := b9
                  have t_c10 := nleI c10
                  have t_c13 := nltI c13
                  have t_c17 := ltI c17
                  have t_c18 := leI c18
                  have t_c19 := eqI c19
                  have : ((-1) : Int32).toInt = -1 := (by decide)
                  have : (0 : Int32).toInt = 0 := (by decide)
                  have : (1 : Int32).toInt = 1 := (by decide)
                  have : (2 : Int32).toInt = 2 := (by decide)
                  first | rfl | ((repeat' split) <;> first | rfl | omega)
                refine W.widen (k := 0) (n := 0) (by omega) (by omega) ?_
                exact W.lret (v := 0) hx hb hr (fun t ht hW => ⟨⟨0, (), rfl, ⟨hpost, trivial⟩, trivial⟩, hS.F ht⟩) hS.2.2 dX11_quiet_145
            · skip
              exact absurd c18 (by decide)
          · skip
            exact absurd c17 (by decide)
    · skip
      have b24 := if10_n c8
      refine lv_ldc2 (v := (-1)) hx hb hown (hg _ wt_1118) dX11_quiet_24 ?_
      have hpost : ((-1) : Int64) = if 0 ≤ mm.toInt ∧ mm.toInt ≤ 4 then (if what.toInt = 0 then 0 else if what.toInt = 1 then 1 else if what.toInt = 2 then 0 else -1) else -1 := by
        have t_b5 := b5
        have t_b24 := b24
        first | rfl | ((repeat' split) <;> first | rfl | omega)
      refine W.widen (k := 0) (n := 0) (by omega) (by omega) ?_
      exact W.lret (v := (-1)) hx hb hr (fun t ht hW => ⟨⟨(-1), (), rfl, ⟨hpost, trivial⟩, trivial⟩, hS.F ht⟩) hS.2.2 dX11_quiet_27

set_option maxHeartbeats 4000000 in
set_option maxRecDepth 100000 in
theorem c_X11_drop (l : Launch) (dC : Nat → ClassId) (dI : Nat → Nat → Nat) (G : Nat → ClassId) (sz : Nat) (h0 st rp tp cu lt od th be ln ma ah bh ik la lg ce : Nat) (what : Int32)    : Met l yX11_drop (Cond.code yX11_drop cX11_drop 6 (some .long) :: GT) ({ frames := 1, cells := 0, slots := 0, locals := 25 } : Room) (PcW [.ref h0, .int what] dC dI G [(h0, .inr (11, [.ref st, .int 0, .int 0, .ref rp, .int 0, .int 0, .int 0, .int 0, .int 0, .int 0, .ref tp, .int 0, .int 0, .int 0, .int 0, .int 0, .int 0, .int 0, .int 0, .ref cu, .ref lt, .ref od, .ref th, .ref be, .ref ln, .int 0, .ref ma, .int 0, .ref ah, .ref bh, .ref ik, .ref la, .ref lg, .ref ce, .int 0]))] sz) (va_Ql (fun (r : Int64) (u : Unit) => match u with | _ => (r = if 0 ≤ what.toInt ∧ what.toInt ≤ 2 then -2 else -1) ∧ True) (fun _ _ => True) (va_A [(h0, .inr (11, [.ref st, .int 0, .int 0, .ref rp, .int 0, .int 0, .int 0, .int 0, .int 0, .int 0, .ref tp, .int 0, .int 0, .int 0, .int 0, .int 0, .int 0, .int 0, .int 0, .ref cu, .ref lt, .ref od, .ref th, .ref be, .ref ln, .int 0, .ref ma, .int 0, .ref ah, .ref bh, .ref ik, .ref la, .ref lg, .ref ce, .int 0]))] sz)) 0 0 (va_A [(h0, .inr (11, [.ref st, .int 0, .int 0, .ref rp, .int 0, .int 0, .int 0, .int 0, .int 0, .int 0, .ref tp, .int 0, .int 0, .int 0, .int 0, .int 0, .int 0, .int 0, .int 0, .ref cu, .ref lt, .ref od, .ref th, .ref be, .ref ln, .int 0, .ref ma, .int 0, .ref ah, .ref bh, .ref ik, .ref la, .ref lg, .ref ce, .int 0]))] sz) := by
  refine Met.ofW (cc := cX11_drop) (maxL := 6) (ret := (some .long)) (by decide) rfl ?_
  intro p e s m args below meth c s₁ B hml hv
  obtain ⟨rfl, hsz, hP, hK, hD0⟩ := hv
  have hx := B.exec
  have hb := B.bytes
  have hr := B.returns
  have hg : ∀ w ∈ GT, w.before ([.ref h0, .int what] : List Value).toArray s = true := fun w h => atoms_spec (ws := Cond.code yX11_drop cX11_drop 6 (some .long) :: GT) B.pre w (List.mem_cons_of_mem _ h)
  have hown : s.vm.findClass RX11 = some m.cls := findClass_of_methodNamed B.named
  have hlocks := B.notSynchronized
  subst hsz
  have hD := hD0.self (sz := s.heap.size)
  generalize hAe : va_A [(h0, .inr (11, [.ref st, .int 0, .int 0, .ref rp, .int 0, .int 0, .int 0, .int 0, .int 0, .int 0, .ref tp, .int 0, .int 0, .int 0, .int 0, .int 0, .int 0, .int 0, .int 0, .ref cu, .ref lt, .ref od, .ref th, .ref be, .ref ln, .int 0, .ref ma, .int 0, .ref ah, .ref bh, .ref ik, .ref la, .ref lg, .ref ce, .int 0]))] s.heap.size = A at hD ⊢
  have hA : ∀ q : Nat, s.heap.size ≤ q → A q := fun q h => by rw [← hAe]; exact Or.inr h
  have hS : va_S A s.heap s.heap [] := va_S.rf
  have hl := lv_entry ([.ref h0, .int what]) (n := 6) (Nat.le_of_ble_eq_true rfl)
  rw [lg_entry_eq]
  generalize (lg_sl ([.ref h0, .int what]) ++ List.replicate (6 - (lg_sl ([.ref h0, .int what])).length) Slot.unset).toArray = ls at hl ⊢
  have hl : lv_has ls 6 [(0, .ref h0), (1, .int what)] := hl
  refine lv_iload_n hx hb dX11_drop_0 rfl (lv_at hl 1 rfl) ?_
  refine lv_i2l (v := what.toInt64) hx hb dX11_drop_1 rfl ?_
  refine lv_lconst (v := 0) hx hb dX11_drop_2 (by decide) ?_
  refine lv_ldc2 (v := 2) hx hb hown (hg _ wt_1056) dX11_drop_3 ?_
  have hPc := hP.sub (ws' := []) [] rfl
  refine va_calli (va_runS (As := [.long what.toInt64, .long 0, .long 2]) (rest := []) ⟨hx, hb, hml, hown, hg⟩ (c_X11_in l dC dI G _ what.toInt64 0 2 ) (kwS hg mfX11_in wt_992 ⟨Nat.le_of_ble_eq_true rfl, Nat.le_of_ble_eq_true rfl⟩) (preSR hK hPc) rfl rfl hl.1 rfl (lv_room (Nat.le_of_ble_eq_true rfl)) dX11_drop_6 ⟨Nat.le_of_ble_eq_true rfl, Nat.le_of_ble_eq_true rfl⟩) hS (fun q h1 h2 => absurd h2 (Nat.not_le.mpr h1)) (fun q h => hA q (Nat.le_trans hS.1 h)) (fun r1 ur1 t H1 locs ht hvm w2 hB hz1 hk1 hS => ?_)
  have hP := keepR hP hk1
  obtain ⟨w2, w2x⟩ := w2
  try simp only [l_ii, show (0 : Int64).toInt = 0 from by decide, show (2 : Int64).toInt = 2 from by decide] at w2
  subst w2
  refine lv_if_ne (tgt := 16) hx hb dX11_drop_9 (by decide) (fun c3 => ?_) (fun c3 => ?_)
  · skip
    have b4 := if10_p c3
    refine lv_aload_n hx hb dX11_drop_16 rfl (lv_at hl 0 rfl) ?_
    refine va_get (D := (dC, dI)) (ci := 11) (v := .int 0) (C := RX11) (T := TX11) (N := 35) hx hb hg inG11 hown hK.1 hP 0 rfl rfl 1 (by decide) (hg _ wt_879) (fun _ h9 => h9) rfl dX11_drop_17 ?_
    refine lv_if_ne (tgt := 27) hx hb dX11_drop_20 (by decide) (fun c5 => ?_) (fun c5 => ?_)
    · skip
      exact absurd c5 (by decide)
    · skip
      refine lv_ldc2 (v := (-2)) hx hb hown (hg _ wt_1170) dX11_drop_23 ?_
      have hpost : ((-2) : Int64) = if 0 ≤ what.toInt ∧ what.toInt ≤ 2 then -2 else -1 := by
        have t_b4 := b4
        have t_c5 := eqI c5
        have : (0 : Int32).toInt = 0 := (by decide)
        first | rfl | ((repeat' split) <;> first | rfl | omega)
      refine W.widen (k := 0) (n := 0) (by omega) (by omega) ?_
      exact W.lret (v := (-2)) hx hb hr (fun t ht hW => ⟨⟨(-2), (), rfl, ⟨hpost, trivial⟩, trivial⟩, hS.F ht⟩) hS.2.2 dX11_drop_26
  · skip
    have b6 := if10_n c3
    refine lv_ldc2 (v := (-1)) hx hb hown (hg _ wt_1118) dX11_drop_12 ?_
    have hpost : ((-1) : Int64) = if 0 ≤ what.toInt ∧ what.toInt ≤ 2 then -2 else -1 := by
      have t_b6 := b6
      first | rfl | ((repeat' split) <;> first | rfl | omega)
    refine W.widen (k := 0) (n := 0) (by omega) (by omega) ?_
    exact W.lret (v := (-1)) hx hb hr (fun t ht hW => ⟨⟨(-1), (), rfl, ⟨hpost, trivial⟩, trivial⟩, hS.F ht⟩) hS.2.2 dX11_drop_15

set_option maxHeartbeats 4000000 in
set_option maxRecDepth 100000 in
theorem c_X11_swap (l : Launch) (dC : Nat → ClassId) (dI : Nat → Nat → Nat) (G : Nat → ClassId) (sz : Nat) (h0 st rp tp cu lt od th be ln ma ah bh ik la lg ce : Nat) (what : Int32)    : Met l yX11_swap (Cond.code yX11_swap cX11_swap 7 (some .long) :: GT) ({ frames := 2, cells := 0, slots := 0, locals := 47 } : Room) (PcW [.ref h0, .int what] dC dI G [(h0, .inr (11, [.ref st, .int 0, .int 0, .ref rp, .int 0, .int 0, .int 0, .int 0, .int 0, .int 0, .ref tp, .int 0, .int 0, .int 0, .int 0, .int 0, .int 0, .int 0, .int 0, .ref cu, .ref lt, .ref od, .ref th, .ref be, .ref ln, .int 0, .ref ma, .int 0, .ref ah, .ref bh, .ref ik, .ref la, .ref lg, .ref ce, .int 0])), (st, .inl (G 0, 196, .inl (fun _ => 0))), (od, .inl (G 1, 10, .inr (.inl (fun _ => 0))))] sz) (va_Ql (fun (r : Int64) (u : Unit) => match u with | _ => (r = if 0 ≤ what.toInt ∧ what.toInt ≤ 2 then -4 else -1) ∧ True) (fun _ _ => True) (va_A [(h0, .inr (11, [.ref st, .int 0, .int 0, .ref rp, .int 0, .int 0, .int 0, .int 0, .int 0, .int 0, .ref tp, .int 0, .int 0, .int 0, .int 0, .int 0, .int 0, .int 0, .int 0, .ref cu, .ref lt, .ref od, .ref th, .ref be, .ref ln, .int 0, .ref ma, .int 0, .ref ah, .ref bh, .ref ik, .ref la, .ref lg, .ref ce, .int 0])), (st, .inl (G 0, 196, .inl (fun _ => 0))), (od, .inl (G 1, 10, .inr (.inl (fun _ => 0))))] sz)) 0 0 (va_A [(h0, .inr (11, [.ref st, .int 0, .int 0, .ref rp, .int 0, .int 0, .int 0, .int 0, .int 0, .int 0, .ref tp, .int 0, .int 0, .int 0, .int 0, .int 0, .int 0, .int 0, .int 0, .ref cu, .ref lt, .ref od, .ref th, .ref be, .ref ln, .int 0, .ref ma, .int 0, .ref ah, .ref bh, .ref ik, .ref la, .ref lg, .ref ce, .int 0])), (st, .inl (G 0, 196, .inl (fun _ => 0))), (od, .inl (G 1, 10, .inr (.inl (fun _ => 0))))] sz) := by
  refine Met.ofW (cc := cX11_swap) (maxL := 7) (ret := (some .long)) (by decide) rfl ?_
  intro p e s m args below meth c s₁ B hml hv
  obtain ⟨rfl, hsz, hP, hK, hD0⟩ := hv
  have hx := B.exec
  have hb := B.bytes
  have hr := B.returns
  have hg : ∀ w ∈ GT, w.before ([.ref h0, .int what] : List Value).toArray s = true := fun w h => atoms_spec (ws := Cond.code yX11_swap cX11_swap 7 (some .long) :: GT) B.pre w (List.mem_cons_of_mem _ h)
  have hown : s.vm.findClass RX11 = some m.cls := findClass_of_methodNamed B.named
  have hlocks := B.notSynchronized
  subst hsz
  have hD := hD0.self (sz := s.heap.size)
  generalize hAe : va_A [(h0, .inr (11, [.ref st, .int 0, .int 0, .ref rp, .int 0, .int 0, .int 0, .int 0, .int 0, .int 0, .ref tp, .int 0, .int 0, .int 0, .int 0, .int 0, .int 0, .int 0, .int 0, .ref cu, .ref lt, .ref od, .ref th, .ref be, .ref ln, .int 0, .ref ma, .int 0, .ref ah, .ref bh, .ref ik, .ref la, .ref lg, .ref ce, .int 0])), (st, .inl (G 0, 196, .inl (fun _ => 0))), (od, .inl (G 1, 10, .inr (.inl (fun _ => 0))))] s.heap.size = A at hD ⊢
  have hA : ∀ q : Nat, s.heap.size ≤ q → A q := fun q h => by rw [← hAe]; exact Or.inr h
  have hS : va_S A s.heap s.heap [] := va_S.rf
  have hl := lv_entry ([.ref h0, .int what]) (n := 7) (Nat.le_of_ble_eq_true rfl)
  rw [lg_entry_eq]
  generalize (lg_sl ([.ref h0, .int what]) ++ List.replicate (7 - (lg_sl ([.ref h0, .int what])).length) Slot.unset).toArray = ls at hl ⊢
  have hl : lv_has ls 7 [(0, .ref h0), (1, .int what)] := hl
  refine lv_iload_n hx hb dX11_swap_0 rfl (lv_at hl 1 rfl) ?_
  refine lv_i2l (v := what.toInt64) hx hb dX11_swap_1 rfl ?_
  refine lv_lconst (v := 0) hx hb dX11_swap_2 (by decide) ?_
  refine lv_ldc2 (v := 2) hx hb hown (hg _ wt_1056) dX11_swap_3 ?_
  have hPc := hP.sub (ws' := []) [] rfl
  refine va_calli (va_runS (As := [.long what.toInt64, .long 0, .long 2]) (rest := []) ⟨hx, hb, hml, hown, hg⟩ (c_X11_in l dC dI G _ what.toInt64 0 2 ) (kwS hg mfX11_in wt_992 ⟨Nat.le_of_ble_eq_true rfl, Nat.le_of_ble_eq_true rfl⟩) (preSR hK hPc) rfl rfl hl.1 rfl (lv_room (Nat.le_of_ble_eq_true rfl)) dX11_swap_6 ⟨Nat.le_of_ble_eq_true rfl, Nat.le_of_ble_eq_true rfl⟩) hS (fun q h1 h2 => absurd h2 (Nat.not_le.mpr h1)) (fun q h => hA q (Nat.le_trans hS.1 h)) (fun r1 ur1 t H1 locs ht hvm w2 hB hz1 hk1 hS => ?_)
  have hP := keepR hP hk1
  obtain ⟨w2, w2x⟩ := w2
  try simp only [l_ii, show (0 : Int64).toInt = 0 from by decide, show (2 : Int64).toInt = 2 from by decide] at w2
  subst w2
  refine lv_if_ne (tgt := 16) hx hb dX11_swap_9 (by decide) (fun c3 => ?_) (fun c3 => ?_)
  · skip
    have b4 := if10_p c3
    refine lv_aload_n hx hb dX11_swap_16 rfl (lv_at hl 0 rfl) ?_
    refine lv_aload_n hx hb dX11_swap_17 rfl (lv_at hl 0 rfl) ?_
    refine va_get (D := (dC, dI)) (ci := 11) (v := .int 0) (C := RX11) (T := TX11) (N := 35) hx hb hg inG11 hown hK.1 hP 0 rfl rfl 1 (by decide) (hg _ wt_879) (fun _ h9 => h9) rfl dX11_swap_18 ?_
    refine lv_iconst (v := 0) hx hb dX11_swap_21 (by decide) ?_
    refine lv_bipush (v := (-4)) hx hb dX11_swap_22 (by decide) ?_
    have hPc := hP.sub (ws' := [(h0, .inr (11, [.ref st, .int 0, .int 0, .ref rp, .int 0, .int 0, .int 0, .int 0, .int 0, .int 0, .ref tp, .int 0, .int 0, .int 0, .int 0, .int 0, .int 0, .int 0, .int 0, .ref cu, .ref lt, .ref od, .ref th, .ref be, .ref ln, .int 0, .ref ma, .int 0, .ref ah, .ref bh, .ref ik, .ref la, .ref lg, .ref ce, .int 0])), (st, .inl (G 0, 196, .inl (fun _ => 0))), (od, .inl (G 1, 10, .inr (.inl (fun _ => 0))))]) [0, 1, 2] rfl
    have hDc := hD.sub (ws' := [(h0, .inr (11, [.ref st, .int 0, .int 0, .ref rp, .int 0, .int 0, .int 0, .int 0, .int 0, .int 0, .ref tp, .int 0, .int 0, .int 0, .int 0, .int 0, .int 0, .int 0, .int 0, .ref cu, .ref lt, .ref od, .ref th, .ref be, .ref ln, .int 0, .ref ma, .int 0, .ref ah, .ref bh, .ref ik, .ref la, .ref lg, .ref ce, .int 0])), (st, .inl (G 0, 196, .inl (fun _ => 0))), (od, .inl (G 1, 10, .inr (.inl (fun _ => 0))))]) [0, 1, 2] (by decide) rfl
    have hFc := va_free (wc := [(h0, .inr (11, [.ref st, .int 0, .int 0, .ref rp, .int 0, .int 0, .int 0, .int 0, .int 0, .int 0, .ref tp, .int 0, .int 0, .int 0, .int 0, .int 0, .int 0, .int 0, .int 0, .ref cu, .ref lt, .ref od, .ref th, .ref be, .ref ln, .int 0, .ref ma, .int 0, .ref ah, .ref bh, .ref ik, .ref la, .ref lg, .ref ce, .int 0])), (st, .inl (G 0, 196, .inl (fun _ => 0))), (od, .inl (G 1, 10, .inr (.inl (fun _ => 0))))]) hD hS hA [0, 1, 2] rfl
    refine va_callv (va_runV (As := [.int 0, .int 0, .int (-4)]) (rest := []) ⟨hx, hb, hml, hown, hg⟩ (c_X11_layOdds l dC dI G _ h0 st rp tp cu lt od th be ln ma ah bh ik la lg ce 0 (-4) (fun _ => 0) ) (kwV hg mfX11_layOdds wt_1119 ⟨Nat.le_of_ble_eq_true rfl, Nat.le_of_ble_eq_true rfl⟩) (preVW hK hPc hDc (ci := 11) rfl rfl) rfl rfl hl.1 rfl (lv_room (Nat.le_of_ble_eq_true rfl)) dX11_swap_24 ⟨Nat.le_of_ble_eq_true rfl, Nat.le_of_ble_eq_true rfl⟩) hS (fun q _ h => hFc q h) hFc (fun ur5 t H1 locs ht hvm w6 hB hz1 hk1 hS => ?_)
    obtain ⟨u7, rfl⟩ : ∃ z, z = ur5 := ⟨_, rfl⟩
    obtain ⟨hP1, hD1⟩ := hB
    rw [ht] at hP1
    obtain ⟨hP, hD⟩ := va_join (wr := []) (w1 := [(h0, .inr (11, [.ref st, .int 0, .int 0, .ref rp, .int 0, .int 0, .int 0, .int 0, .int 0, .int 0, .ref tp, .int 0, .int 0, .int 0, .int 0, .int 0, .int 0, .int 0, .int 0, .ref cu, .ref lt, .ref od, .ref th, .ref be, .ref ln, .int 0, .ref ma, .int 0, .ref ah, .ref bh, .ref ik, .ref la, .ref lg, .ref ce, .int 0])), (st, .inl (G 0, 196, .inl (fun _ => 0))), (od, .inl (G 1, 10, .inr (.inl u7)))]) hP hD [0, 1, 2] [] rfl rfl (by decide) (by decide) hk1 hFc hP1 hD1
    generalize H1 = H at hP hS ⊢
    have hP : va_P (dC, dI) vwCl [(h0, .inr (11, [.ref st, .int 0, .int 0, .ref rp, .int 0, .int 0, .int 0, .int 0, .int 0, .int 0, .ref tp, .int 0, .int 0, .int 0, .int 0, .int 0, .int 0, .int 0, .int 0, .ref cu, .ref lt, .ref od, .ref th, .ref be, .ref ln, .int 0, .ref ma, .int 0, .ref ah, .ref bh, .ref ik, .ref la, .ref lg, .ref ce, .int 0])), (st, .inl (G 0, 196, .inl (fun _ => 0))), (od, .inl (G 1, 10, .inr (.inl u7)))] H := hP
    have hD : va_D A [(h0, .inr (11, [.ref st, .int 0, .int 0, .ref rp, .int 0, .int 0, .int 0, .int 0, .int 0, .int 0, .ref tp, .int 0, .int 0, .int 0, .int 0, .int 0, .int 0, .int 0, .int 0, .ref cu, .ref lt, .ref od, .ref th, .ref be, .ref ln, .int 0, .ref ma, .int 0, .ref ah, .ref bh, .ref ik, .ref la, .ref lg, .ref ce, .int 0])), (st, .inl (G 0, 196, .inl (fun _ => 0))), (od, .inl (G 1, 10, .inr (.inl u7)))] := hD
    refine lv_aload_n hx hb dX11_swap_27 rfl (lv_at hl 0 rfl) ?_
    refine va_get (D := (dC, dI)) (ci := 11) (v := .ref od) (C := RX11) (T := TX11) (N := 35) hx hb hg inG11 hown hK.1 hP 0 rfl rfl 21 (by decide) (hg _ wt_899) (fun _ h9 => h9) rfl dX11_swap_28 ?_
    refine lv_iconst (v := 0) hx hb dX11_swap_31 (by decide) ?_
    refine va_lald hx hb hK.1 hP 2 1 rfl rfl (vp_in_iff.mpr ⟨by decide, by decide⟩) dX11_swap_32 ?_
    refine lv_cgl (y := 0) (w6) ?_
    refine lv_lstore_n (lv' := [(2, .long 0), (0, .ref h0), (1, .int what)]) hx hb dX11_swap_33 rfl hl (by decide) rfl (fun ls hl => ?_)
    refine lv_bipush (v := (-4)) hx hb dX11_swap_34 (by decide) ?_
    refine lv_istore (lv' := [(4, .int (-4)), (2, .long 0), (0, .ref h0), (1, .int what)]) hx hb dX11_swap_36 hl (by decide) rfl (fun ls hl => ?_)
    refine lv_iconst (v := 0) hx hb dX11_swap_38 (by decide) ?_
    refine lv_istore (lv' := [(5, .int 0), (4, .int (-4)), (2, .long 0), (0, .ref h0), (1, .int what)]) hx hb dX11_swap_39 hl (by decide) rfl (fun ls hl => ?_)
    refine lv_iload hx hb dX11_swap_41 (lv_at hl 0 rfl) ?_
    refine lv_aload_n hx hb dX11_swap_43 rfl (lv_at hl 3 rfl) ?_
    refine va_get (D := (dC, dI)) (ci := 11) (v := .int 0) (C := RX11) (T := TX11) (N := 35) hx hb hg inG11 hown hK.1 hP 0 rfl rfl 1 (by decide) (hg _ wt_879) (fun _ h9 => h9) rfl dX11_swap_44 ?_
    refine lv_icmp_ge (tgt := 152) hx hb dX11_swap_47 (by decide) (fun c8 => ?_) (fun c8 => ?_)
    · skip
      refine lv_iload hx hb dX11_swap_152 (lv_at hl 1 rfl) ?_
      refine lv_bipush (v := (-4)) hx hb dX11_swap_154 (by decide) ?_
      refine lv_icmp_eq (tgt := 164) hx hb dX11_swap_156 (by decide) (fun c9 => ?_) (fun c9 => ?_)
      · skip
        refine lv_iload hx hb dX11_swap_164 (lv_at hl 1 rfl) ?_
        refine lv_i2l (v := (-4)) hx hb dX11_swap_166 (by decide) ?_
        refine lv_goto (tgt := 182) hx hb dX11_swap_167 (by decide) ?_
        have hpost : ((-4) : Int64) = if 0 ≤ what.toInt ∧ what.toInt ≤ 2 then -4 else -1 := by
          have t_b4 := b4
          have t_c8 := leI c8
          have t_c9 := eqI c9
          have : ((-4) : Int32).toInt = -4 := (by decide)
          have : (0 : Int32).toInt = 0 := (by decide)
          first | rfl | ((repeat' split) <;> first | rfl | omega)
        refine W.widen (k := 0) (n := 0) (by omega) (by omega) ?_
        exact W.lret (v := (-4)) hx hb hr (fun t ht hW => ⟨⟨(-4), (), rfl, ⟨hpost, trivial⟩, trivial⟩, hS.F ht⟩) hS.2.2 dX11_swap_182
      · skip
        exact absurd c9 (by decide)
    · skip
      exact absurd c8 (by decide)
  · skip
    have b10 := if10_n c3
    refine lv_ldc2 (v := (-1)) hx hb hown (hg _ wt_1118) dX11_swap_12 ?_
    have hpost : ((-1) : Int64) = if 0 ≤ what.toInt ∧ what.toInt ≤ 2 then -4 else -1 := by
      have t_b10 := b10
      first | rfl | ((repeat' split) <;> first | rfl | omega)
    refine W.widen (k := 0) (n := 0) (by omega) (by omega) ?_
    exact W.lret (v := (-1)) hx hb hr (fun t ht hW => ⟨⟨(-1), (), rfl, ⟨hpost, trivial⟩, trivial⟩, hS.F ht⟩) hS.2.2 dX11_swap_15

set_option maxHeartbeats 4000000 in
set_option maxRecDepth 100000 in
theorem c_X11_carry (l : Launch) (dC : Nat → ClassId) (dI : Nat → Nat → Nat) (G : Nat → ClassId) (sz : Nat) (h0 st rp tp cu lt od th be ln ma ah bh ik la lg ce : Nat) (seed what : Int32)    : Met l yX11_carry (Cond.code yX11_carry cX11_carry 9 (some .int) :: GT) ({ frames := 1, cells := 0, slots := 0, locals := 25 } : Room) (PcW [.ref h0, .int seed, .int what] dC dI G [(h0, .inr (11, [.ref st, .int 0, .int 0, .ref rp, .int 0, .int 0, .int 0, .int 0, .int 0, .int 0, .ref tp, .int 0, .int 0, .int 0, .int 0, .int 0, .int 0, .int 0, .int 0, .ref cu, .ref lt, .ref od, .ref th, .ref be, .ref ln, .int 0, .ref ma, .int 0, .ref ah, .ref bh, .ref ik, .ref la, .ref lg, .ref ce, .int 0])), (st, .inl (G 0, 196, .inl (fun _ => 0)))] sz) (va_Qi (fun (r : Int32) (u : Unit) => match u with | _ => (r = if what.toInt = 0 then 5 else if what.toInt = 1 then 0 else if what.toInt = 2 then -4 else -1) ∧ True) (fun _ _ => True) (va_A [(h0, .inr (11, [.ref st, .int 0, .int 0, .ref rp, .int 0, .int 0, .int 0, .int 0, .int 0, .int 0, .ref tp, .int 0, .int 0, .int 0, .int 0, .int 0, .int 0, .int 0, .int 0, .ref cu, .ref lt, .ref od, .ref th, .ref be, .ref ln, .int 0, .ref ma, .int 0, .ref ah, .ref bh, .ref ik, .ref la, .ref lg, .ref ce, .int 0])), (st, .inl (G 0, 196, .inl (fun _ => 0)))] sz)) 0 0 (va_A [(h0, .inr (11, [.ref st, .int 0, .int 0, .ref rp, .int 0, .int 0, .int 0, .int 0, .int 0, .int 0, .ref tp, .int 0, .int 0, .int 0, .int 0, .int 0, .int 0, .int 0, .int 0, .ref cu, .ref lt, .ref od, .ref th, .ref be, .ref ln, .int 0, .ref ma, .int 0, .ref ah, .ref bh, .ref ik, .ref la, .ref lg, .ref ce, .int 0])), (st, .inl (G 0, 196, .inl (fun _ => 0)))] sz) := by
  refine Met.ofW (cc := cX11_carry) (maxL := 9) (ret := (some .int)) (by decide) rfl ?_
  intro p e s m args below meth c s₁ B hml hv
  obtain ⟨rfl, hsz, hP, hK, hD0⟩ := hv
  have hx := B.exec
  have hb := B.bytes
  have hr := B.returns
  have hg : ∀ w ∈ GT, w.before ([.ref h0, .int seed, .int what] : List Value).toArray s = true := fun w h => atoms_spec (ws := Cond.code yX11_carry cX11_carry 9 (some .int) :: GT) B.pre w (List.mem_cons_of_mem _ h)
  have hown : s.vm.findClass RX11 = some m.cls := findClass_of_methodNamed B.named
  have hlocks := B.notSynchronized
  subst hsz
  have hD := hD0.self (sz := s.heap.size)
  generalize hAe : va_A [(h0, .inr (11, [.ref st, .int 0, .int 0, .ref rp, .int 0, .int 0, .int 0, .int 0, .int 0, .int 0, .ref tp, .int 0, .int 0, .int 0, .int 0, .int 0, .int 0, .int 0, .int 0, .ref cu, .ref lt, .ref od, .ref th, .ref be, .ref ln, .int 0, .ref ma, .int 0, .ref ah, .ref bh, .ref ik, .ref la, .ref lg, .ref ce, .int 0])), (st, .inl (G 0, 196, .inl (fun _ => 0)))] s.heap.size = A at hD ⊢
  have hA : ∀ q : Nat, s.heap.size ≤ q → A q := fun q h => by rw [← hAe]; exact Or.inr h
  have hS : va_S A s.heap s.heap [] := va_S.rf
  have hl := lv_entry ([.ref h0, .int seed, .int what]) (n := 9) (Nat.le_of_ble_eq_true rfl)
  rw [lg_entry_eq]
  generalize (lg_sl ([.ref h0, .int seed, .int what]) ++ List.replicate (9 - (lg_sl ([.ref h0, .int seed, .int what])).length) Slot.unset).toArray = ls at hl ⊢
  have hl : lv_has ls 9 [(0, .ref h0), (1, .int seed), (2, .int what)] := hl
  refine lv_iload_n hx hb dX11_carry_0 rfl (lv_at hl 2 rfl) ?_
  refine lv_i2l (v := what.toInt64) hx hb dX11_carry_1 rfl ?_
  refine lv_lconst (v := 0) hx hb dX11_carry_2 (by decide) ?_
  refine lv_ldc2 (v := 2) hx hb hown (hg _ wt_1056) dX11_carry_3 ?_
  have hPc := hP.sub (ws' := []) [] rfl
  refine va_calli (va_runS (As := [.long what.toInt64, .long 0, .long 2]) (rest := []) ⟨hx, hb, hml, hown, hg⟩ (c_X11_in l dC dI G _ what.toInt64 0 2 ) (kwS hg mfX11_in wt_992 ⟨Nat.le_of_ble_eq_true rfl, Nat.le_of_ble_eq_true rfl⟩) (preSR hK hPc) rfl rfl hl.1 rfl (lv_room (Nat.le_of_ble_eq_true rfl)) dX11_carry_6 ⟨Nat.le_of_ble_eq_true rfl, Nat.le_of_ble_eq_true rfl⟩) hS (fun q h1 h2 => absurd h2 (Nat.not_le.mpr h1)) (fun q h => hA q (Nat.le_trans hS.1 h)) (fun r1 ur1 t H1 locs ht hvm w2 hB hz1 hk1 hS => ?_)
  have hP := keepR hP hk1
  obtain ⟨w2, w2x⟩ := w2
  try simp only [l_ii, show (0 : Int64).toInt = 0 from by decide, show (2 : Int64).toInt = 2 from by decide] at w2
  subst w2
  refine lv_if_ne (tgt := 14) hx hb dX11_carry_9 (by decide) (fun c3 => ?_) (fun c3 => ?_)
  · skip
    have b4 := if10_p c3
    refine lv_iload_n hx hb dX11_carry_14 rfl (lv_at hl 1 rfl) ?_
    refine lv_istore_n (lv' := [(3, .int seed), (0, .ref h0), (1, .int seed), (2, .int what)]) hx hb dX11_carry_15 rfl hl (by decide) rfl (fun ls hl => ?_)
    refine lv_aload_n hx hb dX11_carry_16 rfl (lv_at hl 1 rfl) ?_
    have hPc := hP.sub (ws' := [(h0, .inr (11, [.ref st, .int 0, .int 0, .ref rp, .int 0, .int 0, .int 0, .int 0, .int 0, .int 0, .ref tp, .int 0, .int 0, .int 0, .int 0, .int 0, .int 0, .int 0, .int 0, .ref cu, .ref lt, .ref od, .ref th, .ref be, .ref ln, .int 0, .ref ma, .int 0, .ref ah, .ref bh, .ref ik, .ref la, .ref lg, .ref ce, .int 0])), (st, .inl (G 0, 196, .inl (fun _ => 0)))]) [0, 1] rfl
    refine va_calli (va_runV (As := []) (rest := []) ⟨hx, hb, hml, hown, hg⟩ (c_X11_startNow l dC dI G _ h0 st rp tp cu lt od th be ln ma ah bh ik la lg ce ) (kwV hg mfX11_startNow wt_1044 ⟨Nat.le_of_ble_eq_true rfl, Nat.le_of_ble_eq_true rfl⟩) (preVR hK hPc (ci := 11) rfl rfl) rfl rfl hl.1 rfl (lv_room (Nat.le_of_ble_eq_true rfl)) dX11_carry_17 ⟨Nat.le_of_ble_eq_true rfl, Nat.le_of_ble_eq_true rfl⟩) hS (fun q h1 h2 => absurd h2 (Nat.not_le.mpr h1)) (fun q h => hA q (Nat.le_trans hS.1 h)) (fun r5 ur5 t H1 locs ht hvm w6 hB hz1 hk1 hS => ?_)
    have hP := keepR hP hk1
    obtain ⟨w6, w6x⟩ := w6
    subst w6
    refine lv_istore (lv' := [(4, .int 5), (3, .int seed), (0, .ref h0), (1, .int seed), (2, .int what)]) hx hb dX11_carry_20 hl (by decide) rfl (fun ls hl => ?_)
    refine lv_iconst (v := 0) hx hb dX11_carry_22 (by decide) ?_
    refine lv_istore (lv' := [(5, .int 0), (4, .int 5), (3, .int seed), (0, .ref h0), (1, .int seed), (2, .int what)]) hx hb dX11_carry_23 hl (by decide) rfl (fun ls hl => ?_)
    refine lv_bipush (v := (-4)) hx hb dX11_carry_25 (by decide) ?_
    refine lv_istore (lv' := [(6, .int (-4)), (5, .int 0), (4, .int 5), (3, .int seed), (0, .ref h0), (1, .int seed), (2, .int what)]) hx hb dX11_carry_27 hl (by decide) rfl (fun ls hl => ?_)
    refine lv_iconst (v := 0) hx hb dX11_carry_29 (by decide) ?_
    refine lv_istore (lv' := [(7, .int 0), (6, .int (-4)), (5, .int 0), (4, .int 5), (3, .int seed), (0, .ref h0), (1, .int seed), (2, .int what)]) hx hb dX11_carry_30 hl (by decide) rfl (fun ls hl => ?_)
    refine lv_iload hx hb dX11_carry_32 (lv_at hl 0 rfl) ?_
    refine lv_aload_n hx hb dX11_carry_34 rfl (lv_at hl 5 rfl) ?_
    refine va_get (D := (dC, dI)) (ci := 11) (v := .int 0) (C := RX11) (T := TX11) (N := 35) hx hb hg inG11 hown hK.1 hP 0 rfl rfl 1 (by decide) (hg _ wt_879) (fun _ h9 => h9) rfl dX11_carry_35 ?_
    refine lv_icmp_ge (tgt := 138) hx hb dX11_carry_38 (by decide) (fun c7 => ?_) (fun c7 => ?_)
    · skip
      refine lv_iload_n hx hb dX11_carry_138 rfl (lv_at hl 7 rfl) ?_
      refine lv_if_ne (tgt := 147) hx hb dX11_carry_139 (by decide) (fun c8 => ?_) (fun c8 => ?_)
      · skip
        refine lv_iload_n hx hb dX11_carry_147 rfl (lv_at hl 7 rfl) ?_
        refine lv_iconst (v := 1) hx hb dX11_carry_148 (by decide) ?_
        refine lv_icmp_ne (tgt := 157) hx hb dX11_carry_149 (by decide) (fun c9 => ?_) (fun c9 => ?_)
        · skip
          refine lv_iload hx hb dX11_carry_157 (lv_at hl 1 rfl) ?_
          have hpost : ((-4) : Int32) = if what.toInt = 0 then 5 else if what.toInt = 1 then 0 else if what.toInt = 2 then -4 else -1 := by
            have t_b4 := b4
            have t_c7 := leI c7
            have t_c8 := neI c8
            have t_c9 := neI c9
            have : (0 : Int32).toInt = 0 := (by decide)
            have : (1 : Int32).toInt = 1 := (by decide)
            first | rfl | ((repeat' split) <;> first | rfl | omega)
          refine W.widen (k := 0) (n := 0) (by omega) (by omega) ?_
          exact W.iret (v := (-4)) hx hb hr (fun t ht hW => ⟨⟨(-4), (), rfl, ⟨hpost, trivial⟩, trivial⟩, hS.F ht⟩) hS.2.2 dX11_carry_159
        · skip
          refine lv_iload hx hb dX11_carry_152 (lv_at hl 2 rfl) ?_
          refine lv_goto (tgt := 159) hx hb dX11_carry_154 (by decide) ?_
          have hpost : (0 : Int32) = if what.toInt = 0 then 5 else if what.toInt = 1 then 0 else if what.toInt = 2 then -4 else -1 := by
            have t_b4 := b4
            have t_c7 := leI c7
            have t_c8 := neI c8
            have t_c9 := eqI c9
            have : (0 : Int32).toInt = 0 := (by decide)
            have : (1 : Int32).toInt = 1 := (by decide)
            first | rfl | ((repeat' split) <;> first | rfl | omega)
          refine W.widen (k := 0) (n := 0) (by omega) (by omega) ?_
          exact W.iret (v := 0) hx hb hr (fun t ht hW => ⟨⟨0, (), rfl, ⟨hpost, trivial⟩, trivial⟩, hS.F ht⟩) hS.2.2 dX11_carry_159
      · skip
        refine lv_iload hx hb dX11_carry_142 (lv_at hl 3 rfl) ?_
        refine lv_goto (tgt := 159) hx hb dX11_carry_144 (by decide) ?_
        have hpost : (5 : Int32) = if what.toInt = 0 then 5 else if what.toInt = 1 then 0 else if what.toInt = 2 then -4 else -1 := by
          have t_b4 := b4
          have t_c7 := leI c7
          have t_c8 := eqI c8
          have : (0 : Int32).toInt = 0 := (by decide)
          first | rfl | ((repeat' split) <;> first | rfl | omega)
        refine W.widen (k := 0) (n := 0) (by omega) (by omega) ?_
        exact W.iret (v := 5) hx hb hr (fun t ht hW => ⟨⟨5, (), rfl, ⟨hpost, trivial⟩, trivial⟩, hS.F ht⟩) hS.2.2 dX11_carry_159
    · skip
      exact absurd c7 (by decide)
  · skip
    have b10 := if10_n c3
    refine lv_iconst (v := (-1)) hx hb dX11_carry_12 (by decide) ?_
    have hpost : ((-1) : Int32) = if what.toInt = 0 then 5 else if what.toInt = 1 then 0 else if what.toInt = 2 then -4 else -1 := by
      have t_b10 := b10
      first | rfl | ((repeat' split) <;> first | rfl | omega)
    refine W.widen (k := 0) (n := 0) (by omega) (by omega) ?_
    exact W.iret (v := (-1)) hx hb hr (fun t ht hW => ⟨⟨(-1), (), rfl, ⟨hpost, trivial⟩, trivial⟩, hS.F ht⟩) hS.2.2 dX11_carry_13

set_option maxHeartbeats 4000000 in
set_option maxRecDepth 100000 in
theorem c_X11_learn (l : Launch) (dC : Nat → ClassId) (dI : Nat → Nat → Nat) (G : Nat → ClassId) (sz : Nat) (h0 st rp tp cu lt od th be ln ma ah bh ik la lg ce : Nat) (i g tb hm : Int32)    : Met l yX11_learn (Cond.code yX11_learn cX11_learn 6 (some .int) :: GT) ({ frames := 3, cells := 0, slots := 0, locals := 69 } : Room) (PcW [.ref h0, .int i, .int g, .int tb, .int hm] dC dI G [(h0, .inr (11, [.ref st, .int 0, .int 0, .ref rp, .int 0, .int 0, .int 0, .int 0, .int 0, .int 0, .ref tp, .int 0, .int 0, .int 0, .int 0, .int 0, .int 0, .int 0, .int 0, .ref cu, .ref lt, .ref od, .ref th, .ref be, .ref ln, .int 0, .ref ma, .int 0, .ref ah, .ref bh, .ref ik, .ref la, .ref lg, .ref ce, .int 0]))] sz) (va_Qi (fun (r : Int32) (u : Unit) => match u with | _ => (r = -1) ∧ True) (fun _ _ => True) (va_A [(h0, .inr (11, [.ref st, .int 0, .int 0, .ref rp, .int 0, .int 0, .int 0, .int 0, .int 0, .int 0, .ref tp, .int 0, .int 0, .int 0, .int 0, .int 0, .int 0, .int 0, .int 0, .ref cu, .ref lt, .ref od, .ref th, .ref be, .ref ln, .int 0, .ref ma, .int 0, .ref ah, .ref bh, .ref ik, .ref la, .ref lg, .ref ce, .int 0]))] sz)) 0 0 (va_A [(h0, .inr (11, [.ref st, .int 0, .int 0, .ref rp, .int 0, .int 0, .int 0, .int 0, .int 0, .int 0, .ref tp, .int 0, .int 0, .int 0, .int 0, .int 0, .int 0, .int 0, .int 0, .ref cu, .ref lt, .ref od, .ref th, .ref be, .ref ln, .int 0, .ref ma, .int 0, .ref ah, .ref bh, .ref ik, .ref la, .ref lg, .ref ce, .int 0]))] sz) := by
  refine Met.ofW (cc := cX11_learn) (maxL := 6) (ret := (some .int)) (by decide) rfl ?_
  intro p e s m args below meth c s₁ B hml hv
  obtain ⟨rfl, hsz, hP, hK, hD0⟩ := hv
  have hx := B.exec
  have hb := B.bytes
  have hr := B.returns
  have hg : ∀ w ∈ GT, w.before ([.ref h0, .int i, .int g, .int tb, .int hm] : List Value).toArray s = true := fun w h => atoms_spec (ws := Cond.code yX11_learn cX11_learn 6 (some .int) :: GT) B.pre w (List.mem_cons_of_mem _ h)
  have hown : s.vm.findClass RX11 = some m.cls := findClass_of_methodNamed B.named
  have hlocks := B.notSynchronized
  subst hsz
  have hD := hD0.self (sz := s.heap.size)
  generalize hAe : va_A [(h0, .inr (11, [.ref st, .int 0, .int 0, .ref rp, .int 0, .int 0, .int 0, .int 0, .int 0, .int 0, .ref tp, .int 0, .int 0, .int 0, .int 0, .int 0, .int 0, .int 0, .int 0, .ref cu, .ref lt, .ref od, .ref th, .ref be, .ref ln, .int 0, .ref ma, .int 0, .ref ah, .ref bh, .ref ik, .ref la, .ref lg, .ref ce, .int 0]))] s.heap.size = A at hD ⊢
  have hA : ∀ q : Nat, s.heap.size ≤ q → A q := fun q h => by rw [← hAe]; exact Or.inr h
  have hS : va_S A s.heap s.heap [] := va_S.rf
  have hl := lv_entry ([.ref h0, .int i, .int g, .int tb, .int hm]) (n := 6) (Nat.le_of_ble_eq_true rfl)
  rw [lg_entry_eq]
  generalize (lg_sl ([.ref h0, .int i, .int g, .int tb, .int hm]) ++ List.replicate (6 - (lg_sl ([.ref h0, .int i, .int g, .int tb, .int hm])).length) Slot.unset).toArray = ls at hl ⊢
  have hl : lv_has ls 6 [(0, .ref h0), (1, .int i), (2, .int g), (3, .int tb), (4, .int hm)] := hl
  refine lv_aload_n hx hb dX11_learn_0 rfl (lv_at hl 0 rfl) ?_
  refine lv_iload_n hx hb dX11_learn_1 rfl (lv_at hl 1 rfl) ?_
  refine lv_iload_n hx hb dX11_learn_2 rfl (lv_at hl 2 rfl) ?_
  refine lv_iload_n hx hb dX11_learn_3 rfl (lv_at hl 3 rfl) ?_
  have hPc := hP.sub (ws' := [(h0, .inr (11, [.ref st, .int 0, .int 0, .ref rp, .int 0, .int 0, .int 0, .int 0, .int 0, .int 0, .ref tp, .int 0, .int 0, .int 0, .int 0, .int 0, .int 0, .int 0, .int 0, .ref cu, .ref lt, .ref od, .ref th, .ref be, .ref ln, .int 0, .ref ma, .int 0, .ref ah, .ref bh, .ref ik, .ref la, .ref lg, .ref ce, .int 0]))]) [0] rfl
  refine va_calli (va_runV (As := [.int i, .int g, .int tb]) (rest := []) ⟨hx, hb, hml, hown, hg⟩ (c_X11_canHarm l dC dI G _ h0 st rp tp cu lt od th be ln ma ah bh ik la lg ce i g tb ) (kwV hg mfX11_canHarm wt_1102 ⟨Nat.le_of_ble_eq_true rfl, Nat.le_of_ble_eq_true rfl⟩) (preVR hK hPc (ci := 11) rfl rfl) rfl rfl hl.1 rfl (lv_room (Nat.le_of_ble_eq_true rfl)) dX11_learn_4 ⟨Nat.le_of_ble_eq_true rfl, Nat.le_of_ble_eq_true rfl⟩) hS (fun q h1 h2 => absurd h2 (Nat.not_le.mpr h1)) (fun q h => hA q (Nat.le_trans hS.1 h)) (fun r1 ur1 t H1 locs ht hvm w2 hB hz1 hk1 hS => ?_)
  have hP := keepR hP hk1
  obtain ⟨w2, w2x⟩ := w2
  subst w2
  refine lv_if_eq (tgt := 23) hx hb dX11_learn_7 (by decide) (fun c3 => ?_) (fun c3 => ?_)
  · skip
    refine lv_iconst (v := (-1)) hx hb dX11_learn_23 (by decide) ?_
    have hpost : ((-1) : Int32) = -1 := by
      have t_c3 := eqI c3
      have : (0 : Int32).toInt = 0 := (by decide)
      first | rfl | ((repeat' split) <;> first | rfl | omega)
    refine W.widen (k := 0) (n := 0) (by omega) (by omega) ?_
    exact W.iret (v := (-1)) hx hb hr (fun t ht hW => ⟨⟨(-1), (), rfl, ⟨hpost, trivial⟩, trivial⟩, hS.F ht⟩) hS.2.2 dX11_learn_24
  · skip
    exact absurd c3 (by decide)

set_option maxHeartbeats 4000000 in
set_option maxRecDepth 100000 in
theorem c_X11_forget (l : Launch) (dC : Nat → ClassId) (dI : Nat → Nat → Nat) (G : Nat → ClassId) (sz : Nat) (h0 st rp tp cu lt od th be ln ma ah bh ik la lg ce : Nat) (n : Int32)    : Met l yX11_forget (Cond.code yX11_forget cX11_forget 3 (some .int) :: GT) ({ frames := 1, cells := 0, slots := 0, locals := 25 } : Room) (PcW [.ref h0, .int n] dC dI G [(h0, .inr (11, [.ref st, .int 0, .int 0, .ref rp, .int 0, .int 0, .int 0, .int 0, .int 0, .int 0, .ref tp, .int 0, .int 0, .int 0, .int 0, .int 0, .int 0, .int 0, .int 0, .ref cu, .ref lt, .ref od, .ref th, .ref be, .ref ln, .int 0, .ref ma, .int 0, .ref ah, .ref bh, .ref ik, .ref la, .ref lg, .ref ce, .int 0]))] sz) (va_Qi (fun (r : Int32) (u : Unit) => match u with | _ => (r = if n.toInt = 0 then 0 else -1) ∧ True) (fun _ _ => True) (va_A [(h0, .inr (11, [.ref st, .int 0, .int 0, .ref rp, .int 0, .int 0, .int 0, .int 0, .int 0, .int 0, .ref tp, .int 0, .int 0, .int 0, .int 0, .int 0, .int 0, .int 0, .int 0, .ref cu, .ref lt, .ref od, .ref th, .ref be, .ref ln, .int 0, .ref ma, .int 0, .ref ah, .ref bh, .ref ik, .ref la, .ref lg, .ref ce, .int 0]))] sz)) 0 0 (va_A [(h0, .inr (11, [.ref st, .int 0, .int 0, .ref rp, .int 0, .int 0, .int 0, .int 0, .int 0, .int 0, .ref tp, .int 0, .int 0, .int 0, .int 0, .int 0, .int 0, .int 0, .int 0, .ref cu, .ref lt, .ref od, .ref th, .ref be, .ref ln, .int 0, .ref ma, .int 0, .ref ah, .ref bh, .ref ik, .ref la, .ref lg, .ref ce, .int 0]))] sz) := by
  refine Met.ofW (cc := cX11_forget) (maxL := 3) (ret := (some .int)) (by decide) rfl ?_
  intro p e s m args below meth c s₁ B hml hv
  obtain ⟨rfl, hsz, hP, hK, hD0⟩ := hv
  have hx := B.exec
  have hb := B.bytes
  have hr := B.returns
  have hg : ∀ w ∈ GT, w.before ([.ref h0, .int n] : List Value).toArray s = true := fun w h => atoms_spec (ws := Cond.code yX11_forget cX11_forget 3 (some .int) :: GT) B.pre w (List.mem_cons_of_mem _ h)
  have hown : s.vm.findClass RX11 = some m.cls := findClass_of_methodNamed B.named
  have hlocks := B.notSynchronized
  subst hsz
  have hD := hD0.self (sz := s.heap.size)
  generalize hAe : va_A [(h0, .inr (11, [.ref st, .int 0, .int 0, .ref rp, .int 0, .int 0, .int 0, .int 0, .int 0, .int 0, .ref tp, .int 0, .int 0, .int 0, .int 0, .int 0, .int 0, .int 0, .int 0, .ref cu, .ref lt, .ref od, .ref th, .ref be, .ref ln, .int 0, .ref ma, .int 0, .ref ah, .ref bh, .ref ik, .ref la, .ref lg, .ref ce, .int 0]))] s.heap.size = A at hD ⊢
  have hA : ∀ q : Nat, s.heap.size ≤ q → A q := fun q h => by rw [← hAe]; exact Or.inr h
  have hS : va_S A s.heap s.heap [] := va_S.rf
  have hl := lv_entry ([.ref h0, .int n]) (n := 3) (Nat.le_of_ble_eq_true rfl)
  rw [lg_entry_eq]
  generalize (lg_sl ([.ref h0, .int n]) ++ List.replicate (3 - (lg_sl ([.ref h0, .int n])).length) Slot.unset).toArray = ls at hl ⊢
  have hl : lv_has ls 3 [(0, .ref h0), (1, .int n)] := hl
  refine lv_iload_n hx hb dX11_forget_0 rfl (lv_at hl 1 rfl) ?_
  refine lv_i2l (v := n.toInt64) hx hb dX11_forget_1 rfl ?_
  refine lv_lconst (v := 0) hx hb dX11_forget_2 (by decide) ?_
  refine lv_aload_n hx hb dX11_forget_3 rfl (lv_at hl 0 rfl) ?_
  refine va_get (D := (dC, dI)) (ci := 11) (v := .int 0) (C := RX11) (T := TX11) (N := 35) hx hb hg inG11 hown hK.1 hP 0 rfl rfl 25 (by decide) (hg _ wt_903) (fun _ h9 => h9) rfl dX11_forget_4 ?_
  refine lv_i2l (v := 0) hx hb dX11_forget_7 (by decide) ?_
  have hPc := hP.sub (ws' := []) [] rfl
  refine va_calli (va_runS (As := [.long n.toInt64, .long 0, .long 0]) (rest := []) ⟨hx, hb, hml, hown, hg⟩ (c_X11_in l dC dI G _ n.toInt64 0 0 ) (kwS hg mfX11_in wt_992 ⟨Nat.le_of_ble_eq_true rfl, Nat.le_of_ble_eq_true rfl⟩) (preSR hK hPc) rfl rfl hl.1 rfl (lv_room (Nat.le_of_ble_eq_true rfl)) dX11_forget_8 ⟨Nat.le_of_ble_eq_true rfl, Nat.le_of_ble_eq_true rfl⟩) hS (fun q h1 h2 => absurd h2 (Nat.not_le.mpr h1)) (fun q h => hA q (Nat.le_trans hS.1 h)) (fun r1 ur1 t H1 locs ht hvm w2 hB hz1 hk1 hS => ?_)
  have hP := keepR hP hk1
  obtain ⟨w2, w2x⟩ := w2
  try simp only [l_ii, show (0 : Int64).toInt = 0 from by decide, show (0 : Int64).toInt = 0 from by decide] at w2
  subst w2
  refine lv_if_ne (tgt := 16) hx hb dX11_forget_11 (by decide) (fun c3 => ?_) (fun c3 => ?_)
  · skip
    have b4 := if10_p c3
    refine lv_aload_n hx hb dX11_forget_16 rfl (lv_at hl 0 rfl) ?_
    refine va_get (D := (dC, dI)) (ci := 11) (v := .int 0) (C := RX11) (T := TX11) (N := 35) hx hb hg inG11 hown hK.1 hP 0 rfl rfl 25 (by decide) (hg _ wt_903) (fun _ h9 => h9) rfl dX11_forget_17 ?_
    refine lv_istore_n (lv' := [(2, .int 0), (0, .ref h0), (1, .int n)]) hx hb dX11_forget_20 rfl hl (by decide) rfl (fun ls hl => ?_)
    refine lv_aload_n hx hb dX11_forget_21 rfl (lv_at hl 1 rfl) ?_
    refine lv_iload_n hx hb dX11_forget_22 rfl (lv_at hl 2 rfl) ?_
    refine va_put (D := (dC, dI)) (ci := 11) (v := .int n) (ty := .int) (C := RX11) (T := TX11) (N := 35) hx hb hg inG11 tyX11 tyX11_ok nmX11 hown hK.1 hP hD hS 0 rfl rfl 25 (by decide) (hg _ wt_903) (fun _ h9 => h9) rfl (by decide +kernel) rfl rfl (Nat.le_of_ble_eq_true rfl) dX11_forget_23 (fun H locs hP hD hS => ?_)
    have hP : va_P (dC, dI) vwCl [(h0, .inr (11, [.ref st, .int 0, .int 0, .ref rp, .int 0, .int 0, .int 0, .int 0, .int 0, .int 0, .ref tp, .int 0, .int 0, .int 0, .int 0, .int 0, .int 0, .int 0, .int 0, .ref cu, .ref lt, .ref od, .ref th, .ref be, .ref ln, .int n, .ref ma, .int 0, .ref ah, .ref bh, .ref ik, .ref la, .ref lg, .ref ce, .int 0]))] H := hP
    have hD : va_D A [(h0, .inr (11, [.ref st, .int 0, .int 0, .ref rp, .int 0, .int 0, .int 0, .int 0, .int 0, .int 0, .ref tp, .int 0, .int 0, .int 0, .int 0, .int 0, .int 0, .int 0, .int 0, .ref cu, .ref lt, .ref od, .ref th, .ref be, .ref ln, .int n, .ref ma, .int 0, .ref ah, .ref bh, .ref ik, .ref la, .ref lg, .ref ce, .int 0]))] := hD
    refine lv_iload_n hx hb dX11_forget_26 rfl (lv_at hl 0 rfl) ?_
    have hpost : (0 : Int32) = if n.toInt = 0 then 0 else -1 := by
      have t_b4 := b4
      first | rfl | ((repeat' split) <;> first | rfl | omega)
    refine W.widen (k := 0) (n := 0) (by omega) (by omega) ?_
    exact W.iret (v := 0) hx hb hr (fun t ht hW => ⟨⟨0, (), rfl, ⟨hpost, trivial⟩, trivial⟩, hS.F ht⟩) hS.2.2 dX11_forget_27
  · skip
    have b5 := if10_n c3
    refine lv_iconst (v := (-1)) hx hb dX11_forget_14 (by decide) ?_
    have hpost : ((-1) : Int32) = if n.toInt = 0 then 0 else -1 := by
      have t_b5 := b5
      first | rfl | ((repeat' split) <;> first | rfl | omega)
    refine W.widen (k := 0) (n := 0) (by omega) (by omega) ?_
    exact W.iret (v := (-1)) hx hb hr (fun t ht hW => ⟨⟨(-1), (), rfl, ⟨hpost, trivial⟩, trivial⟩, hS.F ht⟩) hS.2.2 dX11_forget_15

set_option maxHeartbeats 4000000 in
set_option maxRecDepth 100000 in
theorem c_X11_steps (l : Launch) (dC : Nat → ClassId) (dI : Nat → Nat → Nat) (G : Nat → ClassId) (sz : Nat) (h0 st rp tp cu lt od th be ln ma ah bh ik la lg ce : Nat) (i what : Int32)    : Met l yX11_steps (Cond.code yX11_steps cX11_steps 11 (some .int) :: GT) ({ frames := 2, cells := 0, slots := 0, locals := 46 } : Room) (PcW [.ref h0, .int i, .int what] dC dI G [(h0, .inr (11, [.ref st, .int 0, .int 0, .ref rp, .int 0, .int 0, .int 0, .int 0, .int 0, .int 0, .ref tp, .int 0, .int 0, .int 0, .int 0, .int 0, .int 0, .int 0, .int 0, .ref cu, .ref lt, .ref od, .ref th, .ref be, .ref ln, .int 0, .ref ma, .int 0, .ref ah, .ref bh, .ref ik, .ref la, .ref lg, .ref ce, .int 0]))] sz) (va_Qi (fun (r : Int32) (u : Unit) => match u with | _ => (r = -1) ∧ True) (fun _ _ => True) (va_A [(h0, .inr (11, [.ref st, .int 0, .int 0, .ref rp, .int 0, .int 0, .int 0, .int 0, .int 0, .int 0, .ref tp, .int 0, .int 0, .int 0, .int 0, .int 0, .int 0, .int 0, .int 0, .ref cu, .ref lt, .ref od, .ref th, .ref be, .ref ln, .int 0, .ref ma, .int 0, .ref ah, .ref bh, .ref ik, .ref la, .ref lg, .ref ce, .int 0]))] sz)) 0 0 (va_A [(h0, .inr (11, [.ref st, .int 0, .int 0, .ref rp, .int 0, .int 0, .int 0, .int 0, .int 0, .int 0, .ref tp, .int 0, .int 0, .int 0, .int 0, .int 0, .int 0, .int 0, .int 0, .ref cu, .ref lt, .ref od, .ref th, .ref be, .ref ln, .int 0, .ref ma, .int 0, .ref ah, .ref bh, .ref ik, .ref la, .ref lg, .ref ce, .int 0]))] sz) := by
  refine Met.ofW (cc := cX11_steps) (maxL := 11) (ret := (some .int)) (by decide) rfl ?_
  intro p e s m args below meth c s₁ B hml hv
  obtain ⟨rfl, hsz, hP, hK, hD0⟩ := hv
  have hx := B.exec
  have hb := B.bytes
  have hr := B.returns
  have hg : ∀ w ∈ GT, w.before ([.ref h0, .int i, .int what] : List Value).toArray s = true := fun w h => atoms_spec (ws := Cond.code yX11_steps cX11_steps 11 (some .int) :: GT) B.pre w (List.mem_cons_of_mem _ h)
  have hown : s.vm.findClass RX11 = some m.cls := findClass_of_methodNamed B.named
  have hlocks := B.notSynchronized
  subst hsz
  have hD := hD0.self (sz := s.heap.size)
  generalize hAe : va_A [(h0, .inr (11, [.ref st, .int 0, .int 0, .ref rp, .int 0, .int 0, .int 0, .int 0, .int 0, .int 0, .ref tp, .int 0, .int 0, .int 0, .int 0, .int 0, .int 0, .int 0, .int 0, .ref cu, .ref lt, .ref od, .ref th, .ref be, .ref ln, .int 0, .ref ma, .int 0, .ref ah, .ref bh, .ref ik, .ref la, .ref lg, .ref ce, .int 0]))] s.heap.size = A at hD ⊢
  have hA : ∀ q : Nat, s.heap.size ≤ q → A q := fun q h => by rw [← hAe]; exact Or.inr h
  have hS : va_S A s.heap s.heap [] := va_S.rf
  have hl := lv_entry ([.ref h0, .int i, .int what]) (n := 11) (Nat.le_of_ble_eq_true rfl)
  rw [lg_entry_eq]
  generalize (lg_sl ([.ref h0, .int i, .int what]) ++ List.replicate (11 - (lg_sl ([.ref h0, .int i, .int what])).length) Slot.unset).toArray = ls at hl ⊢
  have hl : lv_has ls 11 [(0, .ref h0), (1, .int i), (2, .int what)] := hl
  refine lv_aload_n hx hb dX11_steps_0 rfl (lv_at hl 0 rfl) ?_
  refine lv_iload_n hx hb dX11_steps_1 rfl (lv_at hl 1 rfl) ?_
  have hPc := hP.sub (ws' := [(h0, .inr (11, [.ref st, .int 0, .int 0, .ref rp, .int 0, .int 0, .int 0, .int 0, .int 0, .int 0, .ref tp, .int 0, .int 0, .int 0, .int 0, .int 0, .int 0, .int 0, .int 0, .ref cu, .ref lt, .ref od, .ref th, .ref be, .ref ln, .int 0, .ref ma, .int 0, .ref ah, .ref bh, .ref ik, .ref la, .ref lg, .ref ce, .int 0]))]) [0] rfl
  refine va_calli (va_runV (As := [.int i]) (rest := []) ⟨hx, hb, hml, hown, hg⟩ (c_X11_isBearer l dC dI G _ h0 st rp tp cu lt od th be ln ma ah bh ik la lg ce i ) (kwV hg mfX11_isBearer wt_1061 ⟨Nat.le_of_ble_eq_true rfl, Nat.le_of_ble_eq_true rfl⟩) (preVR hK hPc (ci := 11) rfl rfl) rfl rfl hl.1 rfl (lv_room (Nat.le_of_ble_eq_true rfl)) dX11_steps_2 ⟨Nat.le_of_ble_eq_true rfl, Nat.le_of_ble_eq_true rfl⟩) hS (fun q h1 h2 => absurd h2 (Nat.not_le.mpr h1)) (fun q h => hA q (Nat.le_trans hS.1 h)) (fun r1 ur1 t H1 locs ht hvm w2 hB hz1 hk1 hS => ?_)
  have hP := keepR hP hk1
  obtain ⟨w2, w2x⟩ := w2
  subst w2
  refine lv_if_eq (tgt := 20) hx hb dX11_steps_5 (by decide) (fun c3 => ?_) (fun c3 => ?_)
  · skip
    refine lv_iconst (v := (-1)) hx hb dX11_steps_20 (by decide) ?_
    have hpost : ((-1) : Int32) = -1 := by
      have t_c3 := eqI c3
      have : (0 : Int32).toInt = 0 := (by decide)
      first | rfl | ((repeat' split) <;> first | rfl | omega)
    refine W.widen (k := 0) (n := 0) (by omega) (by omega) ?_
    exact W.iret (v := (-1)) hx hb hr (fun t ht hW => ⟨⟨(-1), (), rfl, ⟨hpost, trivial⟩, trivial⟩, hS.F ht⟩) hS.2.2 dX11_steps_21
  · skip
    exact absurd c3 (by decide)

set_option maxHeartbeats 4000000 in
set_option maxRecDepth 100000 in
theorem c_X11_mark (l : Launch) (dC : Nat → ClassId) (dI : Nat → Nat → Nat) (G : Nat → ClassId) (sz : Nat) (h0 st rp tp cu lt od th be ln ma ah bh ik la lg ce : Nat) (i q : Int32)    : Met l yX11_mark (Cond.code yX11_mark cX11_mark 3 (some .int) :: GT) ({ frames := 2, cells := 0, slots := 0, locals := 46 } : Room) (PcW [.ref h0, .int i, .int q] dC dI G [(h0, .inr (11, [.ref st, .int 0, .int 0, .ref rp, .int 0, .int 0, .int 0, .int 0, .int 0, .int 0, .ref tp, .int 0, .int 0, .int 0, .int 0, .int 0, .int 0, .int 0, .int 0, .ref cu, .ref lt, .ref od, .ref th, .ref be, .ref ln, .int 0, .ref ma, .int 0, .ref ah, .ref bh, .ref ik, .ref la, .ref lg, .ref ce, .int 0]))] sz) (va_Qi (fun (r : Int32) (u : Unit) => match u with | _ => (r = -1) ∧ True) (fun _ _ => True) (va_A [(h0, .inr (11, [.ref st, .int 0, .int 0, .ref rp, .int 0, .int 0, .int 0, .int 0, .int 0, .int 0, .ref tp, .int 0, .int 0, .int 0, .int 0, .int 0, .int 0, .int 0, .int 0, .ref cu, .ref lt, .ref od, .ref th, .ref be, .ref ln, .int 0, .ref ma, .int 0, .ref ah, .ref bh, .ref ik, .ref la, .ref lg, .ref ce, .int 0]))] sz)) 0 0 (va_A [(h0, .inr (11, [.ref st, .int 0, .int 0, .ref rp, .int 0, .int 0, .int 0, .int 0, .int 0, .int 0, .ref tp, .int 0, .int 0, .int 0, .int 0, .int 0, .int 0, .int 0, .int 0, .ref cu, .ref lt, .ref od, .ref th, .ref be, .ref ln, .int 0, .ref ma, .int 0, .ref ah, .ref bh, .ref ik, .ref la, .ref lg, .ref ce, .int 0]))] sz) := by
  refine Met.ofW (cc := cX11_mark) (maxL := 3) (ret := (some .int)) (by decide) rfl ?_
  intro p e s m args below meth c s₁ B hml hv
  obtain ⟨rfl, hsz, hP, hK, hD0⟩ := hv
  have hx := B.exec
  have hb := B.bytes
  have hr := B.returns
  have hg : ∀ w ∈ GT, w.before ([.ref h0, .int i, .int q] : List Value).toArray s = true := fun w h => atoms_spec (ws := Cond.code yX11_mark cX11_mark 3 (some .int) :: GT) B.pre w (List.mem_cons_of_mem _ h)
  have hown : s.vm.findClass RX11 = some m.cls := findClass_of_methodNamed B.named
  have hlocks := B.notSynchronized
  subst hsz
  have hD := hD0.self (sz := s.heap.size)
  generalize hAe : va_A [(h0, .inr (11, [.ref st, .int 0, .int 0, .ref rp, .int 0, .int 0, .int 0, .int 0, .int 0, .int 0, .ref tp, .int 0, .int 0, .int 0, .int 0, .int 0, .int 0, .int 0, .int 0, .ref cu, .ref lt, .ref od, .ref th, .ref be, .ref ln, .int 0, .ref ma, .int 0, .ref ah, .ref bh, .ref ik, .ref la, .ref lg, .ref ce, .int 0]))] s.heap.size = A at hD ⊢
  have hA : ∀ q : Nat, s.heap.size ≤ q → A q := fun q h => by rw [← hAe]; exact Or.inr h
  have hS : va_S A s.heap s.heap [] := va_S.rf
  have hl := lv_entry ([.ref h0, .int i, .int q]) (n := 3) (Nat.le_of_ble_eq_true rfl)
  rw [lg_entry_eq]
  generalize (lg_sl ([.ref h0, .int i, .int q]) ++ List.replicate (3 - (lg_sl ([.ref h0, .int i, .int q])).length) Slot.unset).toArray = ls at hl ⊢
  have hl : lv_has ls 3 [(0, .ref h0), (1, .int i), (2, .int q)] := hl
  refine lv_aload_n hx hb dX11_mark_0 rfl (lv_at hl 0 rfl) ?_
  refine lv_iload_n hx hb dX11_mark_1 rfl (lv_at hl 1 rfl) ?_
  have hPc := hP.sub (ws' := [(h0, .inr (11, [.ref st, .int 0, .int 0, .ref rp, .int 0, .int 0, .int 0, .int 0, .int 0, .int 0, .ref tp, .int 0, .int 0, .int 0, .int 0, .int 0, .int 0, .int 0, .int 0, .ref cu, .ref lt, .ref od, .ref th, .ref be, .ref ln, .int 0, .ref ma, .int 0, .ref ah, .ref bh, .ref ik, .ref la, .ref lg, .ref ce, .int 0]))]) [0] rfl
  refine va_calli (va_runV (As := [.int i]) (rest := []) ⟨hx, hb, hml, hown, hg⟩ (c_X11_isStretch l dC dI G _ h0 st rp tp cu lt od th be ln ma ah bh ik la lg ce i ) (kwV hg mfX11_isStretch wt_1052 ⟨Nat.le_of_ble_eq_true rfl, Nat.le_of_ble_eq_true rfl⟩) (preVR hK hPc (ci := 11) rfl rfl) rfl rfl hl.1 rfl (lv_room (Nat.le_of_ble_eq_true rfl)) dX11_mark_2 ⟨Nat.le_of_ble_eq_true rfl, Nat.le_of_ble_eq_true rfl⟩) hS (fun q h1 h2 => absurd h2 (Nat.not_le.mpr h1)) (fun q h => hA q (Nat.le_trans hS.1 h)) (fun r1 ur1 t H1 locs ht hvm w2 hB hz1 hk1 hS => ?_)
  have hP := keepR hP hk1
  obtain ⟨w2, w2x⟩ := w2
  subst w2
  refine lv_if_eq (tgt := 20) hx hb dX11_mark_5 (by decide) (fun c3 => ?_) (fun c3 => ?_)
  · skip
    refine lv_iconst (v := (-1)) hx hb dX11_mark_20 (by decide) ?_
    have hpost : ((-1) : Int32) = -1 := by
      have t_c3 := eqI c3
      have : (0 : Int32).toInt = 0 := (by decide)
      first | rfl | ((repeat' split) <;> first | rfl | omega)
    refine W.widen (k := 0) (n := 0) (by omega) (by omega) ?_
    exact W.iret (v := (-1)) hx hb hr (fun t ht hW => ⟨⟨(-1), (), rfl, ⟨hpost, trivial⟩, trivial⟩, hS.F ht⟩) hS.2.2 dX11_mark_21
  · skip
    exact absurd c3 (by decide)

set_option maxHeartbeats 4000000 in
set_option maxRecDepth 100000 in
theorem c_X11_wipe (l : Launch) (dC : Nat → ClassId) (dI : Nat → Nat → Nat) (G : Nat → ClassId) (sz : Nat) (h0 st rp tp cu lt od th be ln ma ah bh ik la lg ce : Nat) (n : Int32)    : Met l yX11_wipe (Cond.code yX11_wipe cX11_wipe 3 (some .int) :: GT) ({ frames := 1, cells := 0, slots := 0, locals := 25 } : Room) (PcW [.ref h0, .int n] dC dI G [(h0, .inr (11, [.ref st, .int 0, .int 0, .ref rp, .int 0, .int 0, .int 0, .int 0, .int 0, .int 0, .ref tp, .int 0, .int 0, .int 0, .int 0, .int 0, .int 0, .int 0, .int 0, .ref cu, .ref lt, .ref od, .ref th, .ref be, .ref ln, .int 0, .ref ma, .int 0, .ref ah, .ref bh, .ref ik, .ref la, .ref lg, .ref ce, .int 0]))] sz) (va_Qi (fun (r : Int32) (u : Unit) => match u with | _ => (r = if n.toInt = 0 then 0 else -1) ∧ True) (fun _ _ => True) (va_A [(h0, .inr (11, [.ref st, .int 0, .int 0, .ref rp, .int 0, .int 0, .int 0, .int 0, .int 0, .int 0, .ref tp, .int 0, .int 0, .int 0, .int 0, .int 0, .int 0, .int 0, .int 0, .ref cu, .ref lt, .ref od, .ref th, .ref be, .ref ln, .int 0, .ref ma, .int 0, .ref ah, .ref bh, .ref ik, .ref la, .ref lg, .ref ce, .int 0]))] sz)) 0 0 (va_A [(h0, .inr (11, [.ref st, .int 0, .int 0, .ref rp, .int 0, .int 0, .int 0, .int 0, .int 0, .int 0, .ref tp, .int 0, .int 0, .int 0, .int 0, .int 0, .int 0, .int 0, .int 0, .ref cu, .ref lt, .ref od, .ref th, .ref be, .ref ln, .int 0, .ref ma, .int 0, .ref ah, .ref bh, .ref ik, .ref la, .ref lg, .ref ce, .int 0]))] sz) := by
  refine Met.ofW (cc := cX11_wipe) (maxL := 3) (ret := (some .int)) (by decide) rfl ?_
  intro p e s m args below meth c s₁ B hml hv
  obtain ⟨rfl, hsz, hP, hK, hD0⟩ := hv
  have hx := B.exec
  have hb := B.bytes
  have hr := B.returns
  have hg : ∀ w ∈ GT, w.before ([.ref h0, .int n] : List Value).toArray s = true := fun w h => atoms_spec (ws := Cond.code yX11_wipe cX11_wipe 3 (some .int) :: GT) B.pre w (List.mem_cons_of_mem _ h)
  have hown : s.vm.findClass RX11 = some m.cls := findClass_of_methodNamed B.named
  have hlocks := B.notSynchronized
  subst hsz
  have hD := hD0.self (sz := s.heap.size)
  generalize hAe : va_A [(h0, .inr (11, [.ref st, .int 0, .int 0, .ref rp, .int 0, .int 0, .int 0, .int 0, .int 0, .int 0, .ref tp, .int 0, .int 0, .int 0, .int 0, .int 0, .int 0, .int 0, .int 0, .ref cu, .ref lt, .ref od, .ref th, .ref be, .ref ln, .int 0, .ref ma, .int 0, .ref ah, .ref bh, .ref ik, .ref la, .ref lg, .ref ce, .int 0]))] s.heap.size = A at hD ⊢
  have hA : ∀ q : Nat, s.heap.size ≤ q → A q := fun q h => by rw [← hAe]; exact Or.inr h
  have hS : va_S A s.heap s.heap [] := va_S.rf
  have hl := lv_entry ([.ref h0, .int n]) (n := 3) (Nat.le_of_ble_eq_true rfl)
  rw [lg_entry_eq]
  generalize (lg_sl ([.ref h0, .int n]) ++ List.replicate (3 - (lg_sl ([.ref h0, .int n])).length) Slot.unset).toArray = ls at hl ⊢
  have hl : lv_has ls 3 [(0, .ref h0), (1, .int n)] := hl
  refine lv_iload_n hx hb dX11_wipe_0 rfl (lv_at hl 1 rfl) ?_
  refine lv_i2l (v := n.toInt64) hx hb dX11_wipe_1 rfl ?_
  refine lv_lconst (v := 0) hx hb dX11_wipe_2 (by decide) ?_
  refine lv_aload_n hx hb dX11_wipe_3 rfl (lv_at hl 0 rfl) ?_
  refine va_get (D := (dC, dI)) (ci := 11) (v := .int 0) (C := RX11) (T := TX11) (N := 35) hx hb hg inG11 hown hK.1 hP 0 rfl rfl 27 (by decide) (hg _ wt_905) (fun _ h9 => h9) rfl dX11_wipe_4 ?_
  refine lv_i2l (v := 0) hx hb dX11_wipe_7 (by decide) ?_
  have hPc := hP.sub (ws' := []) [] rfl
  refine va_calli (va_runS (As := [.long n.toInt64, .long 0, .long 0]) (rest := []) ⟨hx, hb, hml, hown, hg⟩ (c_X11_in l dC dI G _ n.toInt64 0 0 ) (kwS hg mfX11_in wt_992 ⟨Nat.le_of_ble_eq_true rfl, Nat.le_of_ble_eq_true rfl⟩) (preSR hK hPc) rfl rfl hl.1 rfl (lv_room (Nat.le_of_ble_eq_true rfl)) dX11_wipe_8 ⟨Nat.le_of_ble_eq_true rfl, Nat.le_of_ble_eq_true rfl⟩) hS (fun q h1 h2 => absurd h2 (Nat.not_le.mpr h1)) (fun q h => hA q (Nat.le_trans hS.1 h)) (fun r1 ur1 t H1 locs ht hvm w2 hB hz1 hk1 hS => ?_)
  have hP := keepR hP hk1
  obtain ⟨w2, w2x⟩ := w2
  try simp only [l_ii, show (0 : Int64).toInt = 0 from by decide, show (0 : Int64).toInt = 0 from by decide] at w2
  subst w2
  refine lv_if_ne (tgt := 16) hx hb dX11_wipe_11 (by decide) (fun c3 => ?_) (fun c3 => ?_)
  · skip
    have b4 := if10_p c3
    refine lv_aload_n hx hb dX11_wipe_16 rfl (lv_at hl 0 rfl) ?_
    refine va_get (D := (dC, dI)) (ci := 11) (v := .int 0) (C := RX11) (T := TX11) (N := 35) hx hb hg inG11 hown hK.1 hP 0 rfl rfl 27 (by decide) (hg _ wt_905) (fun _ h9 => h9) rfl dX11_wipe_17 ?_
    refine lv_istore_n (lv' := [(2, .int 0), (0, .ref h0), (1, .int n)]) hx hb dX11_wipe_20 rfl hl (by decide) rfl (fun ls hl => ?_)
    refine lv_aload_n hx hb dX11_wipe_21 rfl (lv_at hl 1 rfl) ?_
    refine lv_iload_n hx hb dX11_wipe_22 rfl (lv_at hl 2 rfl) ?_
    refine va_put (D := (dC, dI)) (ci := 11) (v := .int n) (ty := .int) (C := RX11) (T := TX11) (N := 35) hx hb hg inG11 tyX11 tyX11_ok nmX11 hown hK.1 hP hD hS 0 rfl rfl 27 (by decide) (hg _ wt_905) (fun _ h9 => h9) rfl (by decide +kernel) rfl rfl (Nat.le_of_ble_eq_true rfl) dX11_wipe_23 (fun H locs hP hD hS => ?_)
    have hP : va_P (dC, dI) vwCl [(h0, .inr (11, [.ref st, .int 0, .int 0, .ref rp, .int 0, .int 0, .int 0, .int 0, .int 0, .int 0, .ref tp, .int 0, .int 0, .int 0, .int 0, .int 0, .int 0, .int 0, .int 0, .ref cu, .ref lt, .ref od, .ref th, .ref be, .ref ln, .int 0, .ref ma, .int n, .ref ah, .ref bh, .ref ik, .ref la, .ref lg, .ref ce, .int 0]))] H := hP
    have hD : va_D A [(h0, .inr (11, [.ref st, .int 0, .int 0, .ref rp, .int 0, .int 0, .int 0, .int 0, .int 0, .int 0, .ref tp, .int 0, .int 0, .int 0, .int 0, .int 0, .int 0, .int 0, .int 0, .ref cu, .ref lt, .ref od, .ref th, .ref be, .ref ln, .int 0, .ref ma, .int n, .ref ah, .ref bh, .ref ik, .ref la, .ref lg, .ref ce, .int 0]))] := hD
    refine lv_iload_n hx hb dX11_wipe_26 rfl (lv_at hl 0 rfl) ?_
    have hpost : (0 : Int32) = if n.toInt = 0 then 0 else -1 := by
      have t_b4 := b4
      first | rfl | ((repeat' split) <;> first | rfl | omega)
    refine W.widen (k := 0) (n := 0) (by omega) (by omega) ?_
    exact W.iret (v := 0) hx hb hr (fun t ht hW => ⟨⟨0, (), rfl, ⟨hpost, trivial⟩, trivial⟩, hS.F ht⟩) hS.2.2 dX11_wipe_27
  · skip
    have b5 := if10_n c3
    refine lv_iconst (v := (-1)) hx hb dX11_wipe_14 (by decide) ?_
    have hpost : ((-1) : Int32) = if n.toInt = 0 then 0 else -1 := by
      have t_b5 := b5
      first | rfl | ((repeat' split) <;> first | rfl | omega)
    refine W.widen (k := 0) (n := 0) (by omega) (by omega) ?_
    exact W.iret (v := (-1)) hx hb hr (fun t ht hW => ⟨⟨(-1), (), rfl, ⟨hpost, trivial⟩, trivial⟩, hS.F ht⟩) hS.2.2 dX11_wipe_15

set_option maxHeartbeats 4000000 in
set_option maxRecDepth 100000 in
theorem c_X11_paths (l : Launch) (dC : Nat → ClassId) (dI : Nat → Nat → Nat) (G : Nat → ClassId) (sz : Nat) (h0 st rp tp cu lt od th be ln ma ah bh ik la lg ce : Nat)    : Met l yX11_paths (Cond.code yX11_paths cX11_paths 1 (some .int) :: GT) ({ frames := 2, cells := 0, slots := 0, locals := 45 } : Room) (PcW [.ref h0] dC dI G [(h0, .inr (11, [.ref st, .int 0, .int 0, .ref rp, .int 0, .int 0, .int 0, .int 0, .int 0, .int 0, .ref tp, .int 0, .int 0, .int 0, .int 0, .int 0, .int 0, .int 0, .int 0, .ref cu, .ref lt, .ref od, .ref th, .ref be, .ref ln, .int 0, .ref ma, .int 0, .ref ah, .ref bh, .ref ik, .ref la, .ref lg, .ref ce, .int 0])), (st, .inl (G 0, 196, .inl (fun _ => 0))), (ah, .inl (G 0, 110, .inl (fun _ => 0))), (bh, .inl (G 0, 110, .inl (fun _ => 0)))] sz) (va_Qi (fun (r : Int32) (u : Unit) => match u with | _ => (r = 1) ∧ True) (fun _ _ => True) (va_A [(h0, .inr (11, [.ref st, .int 0, .int 0, .ref rp, .int 0, .int 0, .int 0, .int 0, .int 0, .int 0, .ref tp, .int 0, .int 0, .int 0, .int 0, .int 0, .int 0, .int 0, .int 0, .ref cu, .ref lt, .ref od, .ref th, .ref be, .ref ln, .int 0, .ref ma, .int 0, .ref ah, .ref bh, .ref ik, .ref la, .ref lg, .ref ce, .int 0])), (st, .inl (G 0, 196, .inl (fun _ => 0))), (ah, .inl (G 0, 110, .inl (fun _ => 0))), (bh, .inl (G 0, 110, .inl (fun _ => 0)))] sz)) 0 0 (va_A [(h0, .inr (11, [.ref st, .int 0, .int 0, .ref rp, .int 0, .int 0, .int 0, .int 0, .int 0, .int 0, .ref tp, .int 0, .int 0, .int 0, .int 0, .int 0, .int 0, .int 0, .int 0, .ref cu, .ref lt, .ref od, .ref th, .ref be, .ref ln, .int 0, .ref ma, .int 0, .ref ah, .ref bh, .ref ik, .ref la, .ref lg, .ref ce, .int 0])), (st, .inl (G 0, 196, .inl (fun _ => 0))), (ah, .inl (G 0, 110, .inl (fun _ => 0))), (bh, .inl (G 0, 110, .inl (fun _ => 0)))] sz) := by
  refine Met.ofW (cc := cX11_paths) (maxL := 1) (ret := (some .int)) (by decide) rfl ?_
  intro p e s m args below meth c s₁ B hml hv
  obtain ⟨rfl, hsz, hP, hK, hD0⟩ := hv
  have hx := B.exec
  have hb := B.bytes
  have hr := B.returns
  have hg : ∀ w ∈ GT, w.before ([.ref h0] : List Value).toArray s = true := fun w h => atoms_spec (ws := Cond.code yX11_paths cX11_paths 1 (some .int) :: GT) B.pre w (List.mem_cons_of_mem _ h)
  have hown : s.vm.findClass RX11 = some m.cls := findClass_of_methodNamed B.named
  have hlocks := B.notSynchronized
  subst hsz
  have hD := hD0.self (sz := s.heap.size)
  generalize hAe : va_A [(h0, .inr (11, [.ref st, .int 0, .int 0, .ref rp, .int 0, .int 0, .int 0, .int 0, .int 0, .int 0, .ref tp, .int 0, .int 0, .int 0, .int 0, .int 0, .int 0, .int 0, .int 0, .ref cu, .ref lt, .ref od, .ref th, .ref be, .ref ln, .int 0, .ref ma, .int 0, .ref ah, .ref bh, .ref ik, .ref la, .ref lg, .ref ce, .int 0])), (st, .inl (G 0, 196, .inl (fun _ => 0))), (ah, .inl (G 0, 110, .inl (fun _ => 0))), (bh, .inl (G 0, 110, .inl (fun _ => 0)))] s.heap.size = A at hD ⊢
  have hA : ∀ q : Nat, s.heap.size ≤ q → A q := fun q h => by rw [← hAe]; exact Or.inr h
  have hS : va_S A s.heap s.heap [] := va_S.rf
  have hl := lv_entry ([.ref h0]) (n := 1) (Nat.le_of_ble_eq_true rfl)
  rw [lg_entry_eq]
  generalize (lg_sl ([.ref h0]) ++ List.replicate (1 - (lg_sl ([.ref h0])).length) Slot.unset).toArray = ls at hl ⊢
  have hl : lv_has ls 1 [(0, .ref h0)] := hl
  refine lv_aload_n hx hb dX11_paths_0 rfl (lv_at hl 0 rfl) ?_
  have hPc := hP.sub (ws' := [(h0, .inr (11, [.ref st, .int 0, .int 0, .ref rp, .int 0, .int 0, .int 0, .int 0, .int 0, .int 0, .ref tp, .int 0, .int 0, .int 0, .int 0, .int 0, .int 0, .int 0, .int 0, .ref cu, .ref lt, .ref od, .ref th, .ref be, .ref ln, .int 0, .ref ma, .int 0, .ref ah, .ref bh, .ref ik, .ref la, .ref lg, .ref ce, .int 0])), (st, .inl (G 0, 196, .inl (fun _ => 0))), (ah, .inl (G 0, 110, .inl (fun _ => 0))), (bh, .inl (G 0, 110, .inl (fun _ => 0)))]) [0, 1, 2, 3] rfl
  have hDc := hD.sub (ws' := [(h0, .inr (11, [.ref st, .int 0, .int 0, .ref rp, .int 0, .int 0, .int 0, .int 0, .int 0, .int 0, .ref tp, .int 0, .int 0, .int 0, .int 0, .int 0, .int 0, .int 0, .int 0, .ref cu, .ref lt, .ref od, .ref th, .ref be, .ref ln, .int 0, .ref ma, .int 0, .ref ah, .ref bh, .ref ik, .ref la, .ref lg, .ref ce, .int 0])), (st, .inl (G 0, 196, .inl (fun _ => 0))), (ah, .inl (G 0, 110, .inl (fun _ => 0))), (bh, .inl (G 0, 110, .inl (fun _ => 0)))]) [0, 1, 2, 3] (by decide) rfl
  have hFc := va_free (wc := [(h0, .inr (11, [.ref st, .int 0, .int 0, .ref rp, .int 0, .int 0, .int 0, .int 0, .int 0, .int 0, .ref tp, .int 0, .int 0, .int 0, .int 0, .int 0, .int 0, .int 0, .int 0, .ref cu, .ref lt, .ref od, .ref th, .ref be, .ref ln, .int 0, .ref ma, .int 0, .ref ah, .ref bh, .ref ik, .ref la, .ref lg, .ref ce, .int 0])), (st, .inl (G 0, 196, .inl (fun _ => 0))), (ah, .inl (G 0, 110, .inl (fun _ => 0))), (bh, .inl (G 0, 110, .inl (fun _ => 0)))]) hD hS hA [0, 1, 2, 3] rfl
  refine va_callv (va_runV (As := []) (rest := []) ⟨hx, hb, hml, hown, hg⟩ (c_X11_layPaths l dC dI G _ h0 st rp tp cu lt od th be ln ma ah bh ik la lg ce (fun _ => 0) (fun _ => 0) ) (kwV hg mfX11_layPaths wt_1220 ⟨Nat.le_of_ble_eq_true rfl, Nat.le_of_ble_eq_true rfl⟩) (preVW hK hPc hDc (ci := 11) rfl rfl) rfl rfl hl.1 rfl (lv_room (Nat.le_of_ble_eq_true rfl)) dX11_paths_1 ⟨Nat.le_of_ble_eq_true rfl, Nat.le_of_ble_eq_true rfl⟩) hS (fun q _ h => hFc q h) hFc (fun ur1 t H1 locs ht hvm w2 hB hz1 hk1 hS => ?_)
  obtain ⟨u3, rfl⟩ : ∃ z, z = ur1 := ⟨_, rfl⟩
  obtain ⟨hP1, hD1⟩ := hB
  rw [ht] at hP1
  obtain ⟨hP, hD⟩ := va_join (wr := []) (w1 := [(h0, .inr (11, [.ref st, .int 0, .int 0, .ref rp, .int 0, .int 0, .int 0, .int 0, .int 0, .int 0, .ref tp, .int 0, .int 0, .int 0, .int 0, .int 0, .int 0, .int 0, .int 0, .ref cu, .ref lt, .ref od, .ref th, .ref be, .ref ln, .int 0, .ref ma, .int 0, .ref ah, .ref bh, .ref ik, .ref la, .ref lg, .ref ce, .int 0])), (st, .inl (G 0, 196, .inl (fun _ => 0))), (bh, .inl (G 0, 110, .inl u3))]) hP hD [0, 1, 2, 3] [] rfl rfl (by decide) (by decide) hk1 hFc hP1 hD1
  generalize H1 = H at hP hS ⊢
  have hP : va_P (dC, dI) vwCl [(h0, .inr (11, [.ref st, .int 0, .int 0, .ref rp, .int 0, .int 0, .int 0, .int 0, .int 0, .int 0, .ref tp, .int 0, .int 0, .int 0, .int 0, .int 0, .int 0, .int 0, .int 0, .ref cu, .ref lt, .ref od, .ref th, .ref be, .ref ln, .int 0, .ref ma, .int 0, .ref ah, .ref bh, .ref ik, .ref la, .ref lg, .ref ce, .int 0])), (st, .inl (G 0, 196, .inl (fun _ => 0))), (bh, .inl (G 0, 110, .inl u3))] H := hP
  have hD : va_D A [(h0, .inr (11, [.ref st, .int 0, .int 0, .ref rp, .int 0, .int 0, .int 0, .int 0, .int 0, .int 0, .ref tp, .int 0, .int 0, .int 0, .int 0, .int 0, .int 0, .int 0, .int 0, .ref cu, .ref lt, .ref od, .ref th, .ref be, .ref ln, .int 0, .ref ma, .int 0, .ref ah, .ref bh, .ref ik, .ref la, .ref lg, .ref ce, .int 0])), (st, .inl (G 0, 196, .inl (fun _ => 0))), (bh, .inl (G 0, 110, .inl u3))] := hD
  refine lv_aload_n hx hb dX11_paths_4 rfl (lv_at hl 0 rfl) ?_
  refine va_get (D := (dC, dI)) (ci := 11) (v := .ref bh) (C := RX11) (T := TX11) (N := 35) hx hb hg inG11 hown hK.1 hP 0 rfl rfl 29 (by decide) (hg _ wt_907) (fun _ h9 => h9) rfl dX11_paths_5 ?_
  refine lv_aload_n hx hb dX11_paths_8 rfl (lv_at hl 0 rfl) ?_
  have hPc := hP.sub (ws' := [(h0, .inr (11, [.ref st, .int 0, .int 0, .ref rp, .int 0, .int 0, .int 0, .int 0, .int 0, .int 0, .ref tp, .int 0, .int 0, .int 0, .int 0, .int 0, .int 0, .int 0, .int 0, .ref cu, .ref lt, .ref od, .ref th, .ref be, .ref ln, .int 0, .ref ma, .int 0, .ref ah, .ref bh, .ref ik, .ref la, .ref lg, .ref ce, .int 0])), (st, .inl (G 0, 196, .inl (fun _ => 0)))]) [0, 1] rfl
  refine va_calli (va_runV (As := []) (rest := [.ref bh]) ⟨hx, hb, hml, hown, hg⟩ (c_X11_startNow l dC dI G _ h0 st rp tp cu lt od th be ln ma ah bh ik la lg ce ) (kwV hg mfX11_startNow wt_1044 ⟨Nat.le_of_ble_eq_true rfl, Nat.le_of_ble_eq_true rfl⟩) (preVR hK hPc (ci := 11) rfl rfl) rfl rfl hl.1 rfl (lv_room (Nat.le_of_ble_eq_true rfl)) dX11_paths_9 ⟨Nat.le_of_ble_eq_true rfl, Nat.le_of_ble_eq_true rfl⟩) hS (fun q h1 h2 => absurd h2 (Nat.not_le.mpr h1)) (fun q h => hA q (Nat.le_trans hS.1 h)) (fun r4 ur4 t H1 locs ht hvm w5 hB hz1 hk1 hS => ?_)
  have hP := keepR hP hk1
  obtain ⟨w5, w5x⟩ := w5
  subst w5
  refine va_iald hx hb hK.1 hP 2 0 rfl rfl (vp_in_iff.mpr ⟨by decide, by decide⟩) dX11_paths_12 ?_
  refine lv_cg (y := 1) (w2) ?_
  have hpost : (1 : Int32) = 1 := by
    first | rfl | ((repeat' split) <;> first | rfl | omega)
  refine W.widen (k := 0) (n := 0) (by omega) (by omega) ?_
  exact W.iret (v := 1) hx hb hr (fun t ht hW => ⟨⟨1, (), rfl, ⟨hpost, trivial⟩, trivial⟩, hS.F ht⟩) hS.2.2 dX11_paths_13

set_option maxHeartbeats 4000000 in
set_option maxRecDepth 100000 in
theorem c_X11_eye (l : Launch) (dC : Nat → ClassId) (dI : Nat → Nat → Nat) (G : Nat → ClassId) (sz : Nat) (h0 st rp tp cu lt od th be ln ma ah bh ik la lg ce : Nat) (q : Int32)    : Met l yX11_eye (Cond.code yX11_eye cX11_eye 4 (some .int) :: GT) ({ frames := 2, cells := 0, slots := 0, locals := 45 } : Room) (PcW [.ref h0, .int q] dC dI G [(h0, .inr (11, [.ref st, .int 0, .int 0, .ref rp, .int 0, .int 0, .int 0, .int 0, .int 0, .int 0, .ref tp, .int 0, .int 0, .int 0, .int 0, .int 0, .int 0, .int 0, .int 0, .ref cu, .ref lt, .ref od, .ref th, .ref be, .ref ln, .int 0, .ref ma, .int 0, .ref ah, .ref bh, .ref ik, .ref la, .ref lg, .ref ce, .int 0])), (st, .inl (G 0, 196, .inl (fun _ => 0))), (ah, .inl (G 0, 110, .inl (fun _ => 0))), (bh, .inl (G 0, 110, .inl (fun _ => 0)))] sz) (va_Qi (fun (r : Int32) (u : Unit) => match u with | _ => (r = if 0 ≤ q.toInt ∧ q.toInt ≤ 9 then 0 else -1) ∧ True) (fun _ _ => True) (va_A [(h0, .inr (11, [.ref st, .int 0, .int 0, .ref rp, .int 0, .int 0, .int 0, .int 0, .int 0, .int 0, .ref tp, .int 0, .int 0, .int 0, .int 0, .int 0, .int 0, .int 0, .int 0, .ref cu, .ref lt, .ref od, .ref th, .ref be, .ref ln, .int 0, .ref ma, .int 0, .ref ah, .ref bh, .ref ik, .ref la, .ref lg, .ref ce, .int 0])), (st, .inl (G 0, 196, .inl (fun _ => 0))), (ah, .inl (G 0, 110, .inl (fun _ => 0))), (bh, .inl (G 0, 110, .inl (fun _ => 0)))] sz)) 0 0 (va_A [(h0, .inr (11, [.ref st, .int 0, .int 0, .ref rp, .int 0, .int 0, .int 0, .int 0, .int 0, .int 0, .ref tp, .int 0, .int 0, .int 0, .int 0, .int 0, .int 0, .int 0, .int 0, .ref cu, .ref lt, .ref od, .ref th, .ref be, .ref ln, .int 0, .ref ma, .int 0, .ref ah, .ref bh, .ref ik, .ref la, .ref lg, .ref ce, .int 0])), (st, .inl (G 0, 196, .inl (fun _ => 0))), (ah, .inl (G 0, 110, .inl (fun _ => 0))), (bh, .inl (G 0, 110, .inl (fun _ => 0)))] sz) := by
  refine Met.ofW (cc := cX11_eye) (maxL := 4) (ret := (some .int)) (by decide) rfl ?_
  intro p e s m args below meth c s₁ B hml hv
  obtain ⟨rfl, hsz, hP, hK, hD0⟩ := hv
  have hx := B.exec
  have hb := B.bytes
  have hr := B.returns
  have hg : ∀ w ∈ GT, w.before ([.ref h0, .int q] : List Value).toArray s = true := fun w h => atoms_spec (ws := Cond.code yX11_eye cX11_eye 4 (some .int) :: GT) B.pre w (List.mem_cons_of_mem _ h)
  have hown : s.vm.findClass RX11 = some m.cls := findClass_of_methodNamed B.named
  have hlocks := B.notSynchronized
  subst hsz
  have hD := hD0.self (sz := s.heap.size)
  generalize hAe : va_A [(h0, .inr (11, [.ref st, .int 0, .int 0, .ref rp, .int 0, .int 0, .int 0, .int 0, .int 0, .int 0, .ref tp, .int 0, .int 0, .int 0, .int 0, .int 0, .int 0, .int 0, .int 0, .ref cu, .ref lt, .ref od, .ref th, .ref be, .ref ln, .int 0, .ref ma, .int 0, .ref ah, .ref bh, .ref ik, .ref la, .ref lg, .ref ce, .int 0])), (st, .inl (G 0, 196, .inl (fun _ => 0))), (ah, .inl (G 0, 110, .inl (fun _ => 0))), (bh, .inl (G 0, 110, .inl (fun _ => 0)))] s.heap.size = A at hD ⊢
  have hA : ∀ q : Nat, s.heap.size ≤ q → A q := fun q h => by rw [← hAe]; exact Or.inr h
  have hS : va_S A s.heap s.heap [] := va_S.rf
  have hl := lv_entry ([.ref h0, .int q]) (n := 4) (Nat.le_of_ble_eq_true rfl)
  rw [lg_entry_eq]
  generalize (lg_sl ([.ref h0, .int q]) ++ List.replicate (4 - (lg_sl ([.ref h0, .int q])).length) Slot.unset).toArray = ls at hl ⊢
  have hl : lv_has ls 4 [(0, .ref h0), (1, .int q)] := hl
  refine lv_iload_n hx hb dX11_eye_0 rfl (lv_at hl 1 rfl) ?_
  refine lv_i2l (v := q.toInt64) hx hb dX11_eye_1 rfl ?_
  refine lv_lconst (v := 0) hx hb dX11_eye_2 (by decide) ?_
  refine lv_ldc2 (v := 9) hx hb hown (hg _ wt_1069) dX11_eye_3 ?_
  have hPc := hP.sub (ws' := []) [] rfl
  refine va_calli (va_runS (As := [.long q.toInt64, .long 0, .long 9]) (rest := []) ⟨hx, hb, hml, hown, hg⟩ (c_X11_in l dC dI G _ q.toInt64 0 9 ) (kwS hg mfX11_in wt_992 ⟨Nat.le_of_ble_eq_true rfl, Nat.le_of_ble_eq_true rfl⟩) (preSR hK hPc) rfl rfl hl.1 rfl (lv_room (Nat.le_of_ble_eq_true rfl)) dX11_eye_6 ⟨Nat.le_of_ble_eq_true rfl, Nat.le_of_ble_eq_true rfl⟩) hS (fun q h1 h2 => absurd h2 (Nat.not_le.mpr h1)) (fun q h => hA q (Nat.le_trans hS.1 h)) (fun r1 ur1 t H1 locs ht hvm w2 hB hz1 hk1 hS => ?_)
  have hP := keepR hP hk1
  obtain ⟨w2, w2x⟩ := w2
  try simp only [l_ii, show (0 : Int64).toInt = 0 from by decide, show (9 : Int64).toInt = 9 from by decide] at w2
  subst w2
  refine lv_if_ne (tgt := 14) hx hb dX11_eye_9 (by decide) (fun c3 => ?_) (fun c3 => ?_)
  · skip
    have b4 := if10_p c3
    refine lv_aload_n hx hb dX11_eye_14 rfl (lv_at hl 0 rfl) ?_
    have hPc := hP.sub (ws' := [(h0, .inr (11, [.ref st, .int 0, .int 0, .ref rp, .int 0, .int 0, .int 0, .int 0, .int 0, .int 0, .ref tp, .int 0, .int 0, .int 0, .int 0, .int 0, .int 0, .int 0, .int 0, .ref cu, .ref lt, .ref od, .ref th, .ref be, .ref ln, .int 0, .ref ma, .int 0, .ref ah, .ref bh, .ref ik, .ref la, .ref lg, .ref ce, .int 0])), (st, .inl (G 0, 196, .inl (fun _ => 0))), (ah, .inl (G 0, 110, .inl (fun _ => 0))), (bh, .inl (G 0, 110, .inl (fun _ => 0)))]) [0, 1, 2, 3] rfl
    have hDc := hD.sub (ws' := [(h0, .inr (11, [.ref st, .int 0, .int 0, .ref rp, .int 0, .int 0, .int 0, .int 0, .int 0, .int 0, .ref tp, .int 0, .int 0, .int 0, .int 0, .int 0, .int 0, .int 0, .int 0, .ref cu, .ref lt, .ref od, .ref th, .ref be, .ref ln, .int 0, .ref ma, .int 0, .ref ah, .ref bh, .ref ik, .ref la, .ref lg, .ref ce, .int 0])), (st, .inl (G 0, 196, .inl (fun _ => 0))), (ah, .inl (G 0, 110, .inl (fun _ => 0))), (bh, .inl (G 0, 110, .inl (fun _ => 0)))]) [0, 1, 2, 3] (by decide) rfl
    have hFc := va_free (wc := [(h0, .inr (11, [.ref st, .int 0, .int 0, .ref rp, .int 0, .int 0, .int 0, .int 0, .int 0, .int 0, .ref tp, .int 0, .int 0, .int 0, .int 0, .int 0, .int 0, .int 0, .int 0, .ref cu, .ref lt, .ref od, .ref th, .ref be, .ref ln, .int 0, .ref ma, .int 0, .ref ah, .ref bh, .ref ik, .ref la, .ref lg, .ref ce, .int 0])), (st, .inl (G 0, 196, .inl (fun _ => 0))), (ah, .inl (G 0, 110, .inl (fun _ => 0))), (bh, .inl (G 0, 110, .inl (fun _ => 0)))]) hD hS hA [0, 1, 2, 3] rfl
    refine va_callv (va_runV (As := []) (rest := []) ⟨hx, hb, hml, hown, hg⟩ (c_X11_layPaths l dC dI G _ h0 st rp tp cu lt od th be ln ma ah bh ik la lg ce (fun _ => 0) (fun _ => 0) ) (kwV hg mfX11_layPaths wt_1220 ⟨Nat.le_of_ble_eq_true rfl, Nat.le_of_ble_eq_true rfl⟩) (preVW hK hPc hDc (ci := 11) rfl rfl) rfl rfl hl.1 rfl (lv_room (Nat.le_of_ble_eq_true rfl)) dX11_eye_15 ⟨Nat.le_of_ble_eq_true rfl, Nat.le_of_ble_eq_true rfl⟩) hS (fun q _ h => hFc q h) hFc (fun ur5 t H1 locs ht hvm w6 hB hz1 hk1 hS => ?_)
    obtain ⟨u7, rfl⟩ : ∃ z, z = ur5 := ⟨_, rfl⟩
    obtain ⟨hP1, hD1⟩ := hB
    rw [ht] at hP1
    obtain ⟨hP, hD⟩ := va_join (wr := []) (w1 := [(h0, .inr (11, [.ref st, .int 0, .int 0, .ref rp, .int 0, .int 0, .int 0, .int 0, .int 0, .int 0, .ref tp, .int 0, .int 0, .int 0, .int 0, .int 0, .int 0, .int 0, .int 0, .ref cu, .ref lt, .ref od, .ref th, .ref be, .ref ln, .int 0, .ref ma, .int 0, .ref ah, .ref bh, .ref ik, .ref la, .ref lg, .ref ce, .int 0])), (st, .inl (G 0, 196, .inl (fun _ => 0))), (bh, .inl (G 0, 110, .inl u7))]) hP hD [0, 1, 2, 3] [] rfl rfl (by decide) (by decide) hk1 hFc hP1 hD1
    generalize H1 = H at hP hS ⊢
    have hP : va_P (dC, dI) vwCl [(h0, .inr (11, [.ref st, .int 0, .int 0, .ref rp, .int 0, .int 0, .int 0, .int 0, .int 0, .int 0, .ref tp, .int 0, .int 0, .int 0, .int 0, .int 0, .int 0, .int 0, .int 0, .ref cu, .ref lt, .ref od, .ref th, .ref be, .ref ln, .int 0, .ref ma, .int 0, .ref ah, .ref bh, .ref ik, .ref la, .ref lg, .ref ce, .int 0])), (st, .inl (G 0, 196, .inl (fun _ => 0))), (bh, .inl (G 0, 110, .inl u7))] H := hP
    have hD : va_D A [(h0, .inr (11, [.ref st, .int 0, .int 0, .ref rp, .int 0, .int 0, .int 0, .int 0, .int 0, .int 0, .ref tp, .int 0, .int 0, .int 0, .int 0, .int 0, .int 0, .int 0, .int 0, .ref cu, .ref lt, .ref od, .ref th, .ref be, .ref ln, .int 0, .ref ma, .int 0, .ref ah, .ref bh, .ref ik, .ref la, .ref lg, .ref ce, .int 0])), (st, .inl (G 0, 196, .inl (fun _ => 0))), (bh, .inl (G 0, 110, .inl u7))] := hD
    refine lv_iconst (v := 0) hx hb dX11_eye_18 (by decide) ?_
    refine lv_istore_n (lv' := [(2, .int 0), (0, .ref h0), (1, .int q)]) hx hb dX11_eye_19 rfl hl (by decide) rfl (fun ls hl => ?_)
    refine lv_iconst (v := 0) hx hb dX11_eye_20 (by decide) ?_
    refine lv_istore_n (lv' := [(3, .int 0), (2, .int 0), (0, .ref h0), (1, .int q)]) hx hb dX11_eye_21 rfl hl (by decide) rfl (fun ls hl => ?_)
    refine lv_iload_n hx hb dX11_eye_22 rfl (lv_at hl 0 rfl) ?_
    refine lv_aload_n hx hb dX11_eye_23 rfl (lv_at hl 2 rfl) ?_
    refine va_get (D := (dC, dI)) (ci := 11) (v := .int 0) (C := RX11) (T := TX11) (N := 35) hx hb hg inG11 hown hK.1 hP 0 rfl rfl 1 (by decide) (hg _ wt_879) (fun _ h9 => h9) rfl dX11_eye_24 ?_
    refine lv_icmp_ge (tgt := 80) hx hb dX11_eye_27 (by decide) (fun c8 => ?_) (fun c8 => ?_)
    · skip
      refine lv_iload_n hx hb dX11_eye_80 rfl (lv_at hl 1 rfl) ?_
      have hpost : (0 : Int32) = if 0 ≤ q.toInt ∧ q.toInt ≤ 9 then 0 else -1 := by
        have t_b4 := b4
        have t_c8 := leI c8
        have : (0 : Int32).toInt = 0 := (by decide)
        first | rfl | ((repeat' split) <;> first | rfl | omega)
      refine W.widen (k := 0) (n := 0) (by omega) (by omega) ?_
      exact W.iret (v := 0) hx hb hr (fun t ht hW => ⟨⟨0, (), rfl, ⟨hpost, trivial⟩, trivial⟩, hS.F ht⟩) hS.2.2 dX11_eye_81
    · skip
      exact absurd c8 (by decide)
  · skip
    have b9 := if10_n c3
    refine lv_iconst (v := (-1)) hx hb dX11_eye_12 (by decide) ?_
    have hpost : ((-1) : Int32) = if 0 ≤ q.toInt ∧ q.toInt ≤ 9 then 0 else -1 := by
      have t_b9 := b9
      first | rfl | ((repeat' split) <;> first | rfl | omega)
    refine W.widen (k := 0) (n := 0) (by omega) (by omega) ?_
    exact W.iret (v := (-1)) hx hb hr (fun t ht hW => ⟨⟨(-1), (), rfl, ⟨hpost, trivial⟩, trivial⟩, hS.F ht⟩) hS.2.2 dX11_eye_13

set_option maxHeartbeats 4000000 in
set_option maxRecDepth 100000 in
theorem c_X11_sure (l : Launch) (dC : Nat → ClassId) (dI : Nat → Nat → Nat) (G : Nat → ClassId) (sz : Nat) (h0 st rp tp cu lt od th be ln ma ah bh ik la lg ce : Nat) (what : Int32)    : Met l yX11_sure (Cond.code yX11_sure cX11_sure 7 (some .int) :: GT) ({ frames := 2, cells := 0, slots := 0, locals := 45 } : Room) (PcW [.ref h0, .int what] dC dI G [(h0, .inr (11, [.ref st, .int 0, .int 0, .ref rp, .int 0, .int 0, .int 0, .int 0, .int 0, .int 0, .ref tp, .int 0, .int 0, .int 0, .int 0, .int 0, .int 0, .int 0, .int 0, .ref cu, .ref lt, .ref od, .ref th, .ref be, .ref ln, .int 0, .ref ma, .int 0, .ref ah, .ref bh, .ref ik, .ref la, .ref lg, .ref ce, .int 0])), (st, .inl (G 0, 196, .inl (fun _ => 0))), (ah, .inl (G 0, 110, .inl (fun _ => 0))), (bh, .inl (G 0, 110, .inl (fun _ => 0)))] sz) (va_Qi (fun (r : Int32) (u : Unit) => match u with | _ => (r = if 0 ≤ what.toInt ∧ what.toInt ≤ 1 then 0 else -1) ∧ True) (fun _ _ => True) (va_A [(h0, .inr (11, [.ref st, .int 0, .int 0, .ref rp, .int 0, .int 0, .int 0, .int 0, .int 0, .int 0, .ref tp, .int 0, .int 0, .int 0, .int 0, .int 0, .int 0, .int 0, .int 0, .ref cu, .ref lt, .ref od, .ref th, .ref be, .ref ln, .int 0, .ref ma, .int 0, .ref ah, .ref bh, .ref ik, .ref la, .ref lg, .ref ce, .int 0])), (st, .inl (G 0, 196, .inl (fun _ => 0))), (ah, .inl (G 0, 110, .inl (fun _ => 0))), (bh, .inl (G 0, 110, .inl (fun _ => 0)))] sz)) 0 0 (va_A [(h0, .inr (11, [.ref st, .int 0, .int 0, .ref rp, .int 0, .int 0, .int 0, .int 0, .int 0, .int 0, .ref tp, .int 0, .int 0, .int 0, .int 0, .int 0, .int 0, .int 0, .int 0, .ref cu, .ref lt, .ref od, .ref th, .ref be, .ref ln, .int 0, .ref ma, .int 0, .ref ah, .ref bh, .ref ik, .ref la, .ref lg, .ref ce, .int 0])), (st, .inl (G 0, 196, .inl (fun _ => 0))), (ah, .inl (G 0, 110, .inl (fun _ => 0))), (bh, .inl (G 0, 110, .inl (fun _ => 0)))] sz) := by
  refine Met.ofW (cc := cX11_sure) (maxL := 7) (ret := (some .int)) (by decide) rfl ?_
  intro p e s m args below meth c s₁ B hml hv
  obtain ⟨rfl, hsz, hP, hK, hD0⟩ := hv
  have hx := B.exec
  have hb := B.bytes
  have hr := B.returns
  have hg : ∀ w ∈ GT, w.before ([.ref h0, .int what] : List Value).toArray s = true := fun w h => atoms_spec (ws := Cond.code yX11_sure cX11_sure 7 (some .int) :: GT) B.pre w (List.mem_cons_of_mem _ h)
  have hown : s.vm.findClass RX11 = some m.cls := findClass_of_methodNamed B.named
  have hlocks := B.notSynchronized
  subst hsz
  have hD := hD0.self (sz := s.heap.size)
  generalize hAe : va_A [(h0, .inr (11, [.ref st, .int 0, .int 0, .ref rp, .int 0, .int 0, .int 0, .int 0, .int 0, .int 0, .ref tp, .int 0, .int 0, .int 0, .int 0, .int 0, .int 0, .int 0, .int 0, .ref cu, .ref lt, .ref od, .ref th, .ref be, .ref ln, .int 0, .ref ma, .int 0, .ref ah, .ref bh, .ref ik, .ref la, .ref lg, .ref ce, .int 0])), (st, .inl (G 0, 196, .inl (fun _ => 0))), (ah, .inl (G 0, 110, .inl (fun _ => 0))), (bh, .inl (G 0, 110, .inl (fun _ => 0)))] s.heap.size = A at hD ⊢
  have hA : ∀ q : Nat, s.heap.size ≤ q → A q := fun q h => by rw [← hAe]; exact Or.inr h
  have hS : va_S A s.heap s.heap [] := va_S.rf
  have hl := lv_entry ([.ref h0, .int what]) (n := 7) (Nat.le_of_ble_eq_true rfl)
  rw [lg_entry_eq]
  generalize (lg_sl ([.ref h0, .int what]) ++ List.replicate (7 - (lg_sl ([.ref h0, .int what])).length) Slot.unset).toArray = ls at hl ⊢
  have hl : lv_has ls 7 [(0, .ref h0), (1, .int what)] := hl
  refine lv_iload_n hx hb dX11_sure_0 rfl (lv_at hl 1 rfl) ?_
  refine lv_i2l (v := what.toInt64) hx hb dX11_sure_1 rfl ?_
  refine lv_lconst (v := 0) hx hb dX11_sure_2 (by decide) ?_
  refine lv_lconst (v := 1) hx hb dX11_sure_3 (by decide) ?_
  have hPc := hP.sub (ws' := []) [] rfl
  refine va_calli (va_runS (As := [.long what.toInt64, .long 0, .long 1]) (rest := []) ⟨hx, hb, hml, hown, hg⟩ (c_X11_in l dC dI G _ what.toInt64 0 1 ) (kwS hg mfX11_in wt_992 ⟨Nat.le_of_ble_eq_true rfl, Nat.le_of_ble_eq_true rfl⟩) (preSR hK hPc) rfl rfl hl.1 rfl (lv_room (Nat.le_of_ble_eq_true rfl)) dX11_sure_4 ⟨Nat.le_of_ble_eq_true rfl, Nat.le_of_ble_eq_true rfl⟩) hS (fun q h1 h2 => absurd h2 (Nat.not_le.mpr h1)) (fun q h => hA q (Nat.le_trans hS.1 h)) (fun r1 ur1 t H1 locs ht hvm w2 hB hz1 hk1 hS => ?_)
  have hP := keepR hP hk1
  obtain ⟨w2, w2x⟩ := w2
  try simp only [l_ii, show (0 : Int64).toInt = 0 from by decide, show (1 : Int64).toInt = 1 from by decide] at w2
  subst w2
  refine lv_if_ne (tgt := 12) hx hb dX11_sure_7 (by decide) (fun c3 => ?_) (fun c3 => ?_)
  · skip
    have b4 := if10_p c3
    refine lv_aload_n hx hb dX11_sure_12 rfl (lv_at hl 0 rfl) ?_
    have hPc := hP.sub (ws' := [(h0, .inr (11, [.ref st, .int 0, .int 0, .ref rp, .int 0, .int 0, .int 0, .int 0, .int 0, .int 0, .ref tp, .int 0, .int 0, .int 0, .int 0, .int 0, .int 0, .int 0, .int 0, .ref cu, .ref lt, .ref od, .ref th, .ref be, .ref ln, .int 0, .ref ma, .int 0, .ref ah, .ref bh, .ref ik, .ref la, .ref lg, .ref ce, .int 0])), (st, .inl (G 0, 196, .inl (fun _ => 0))), (ah, .inl (G 0, 110, .inl (fun _ => 0))), (bh, .inl (G 0, 110, .inl (fun _ => 0)))]) [0, 1, 2, 3] rfl
    have hDc := hD.sub (ws' := [(h0, .inr (11, [.ref st, .int 0, .int 0, .ref rp, .int 0, .int 0, .int 0, .int 0, .int 0, .int 0, .ref tp, .int 0, .int 0, .int 0, .int 0, .int 0, .int 0, .int 0, .int 0, .ref cu, .ref lt, .ref od, .ref th, .ref be, .ref ln, .int 0, .ref ma, .int 0, .ref ah, .ref bh, .ref ik, .ref la, .ref lg, .ref ce, .int 0])), (st, .inl (G 0, 196, .inl (fun _ => 0))), (ah, .inl (G 0, 110, .inl (fun _ => 0))), (bh, .inl (G 0, 110, .inl (fun _ => 0)))]) [0, 1, 2, 3] (by decide) rfl
    have hFc := va_free (wc := [(h0, .inr (11, [.ref st, .int 0, .int 0, .ref rp, .int 0, .int 0, .int 0, .int 0, .int 0, .int 0, .ref tp, .int 0, .int 0, .int 0, .int 0, .int 0, .int 0, .int 0, .int 0, .ref cu, .ref lt, .ref od, .ref th, .ref be, .ref ln, .int 0, .ref ma, .int 0, .ref ah, .ref bh, .ref ik, .ref la, .ref lg, .ref ce, .int 0])), (st, .inl (G 0, 196, .inl (fun _ => 0))), (ah, .inl (G 0, 110, .inl (fun _ => 0))), (bh, .inl (G 0, 110, .inl (fun _ => 0)))]) hD hS hA [0, 1, 2, 3] rfl
    refine va_callv (va_runV (As := []) (rest := []) ⟨hx, hb, hml, hown, hg⟩ (c_X11_layPaths l dC dI G _ h0 st rp tp cu lt od th be ln ma ah bh ik la lg ce (fun _ => 0) (fun _ => 0) ) (kwV hg mfX11_layPaths wt_1220 ⟨Nat.le_of_ble_eq_true rfl, Nat.le_of_ble_eq_true rfl⟩) (preVW hK hPc hDc (ci := 11) rfl rfl) rfl rfl hl.1 rfl (lv_room (Nat.le_of_ble_eq_true rfl)) dX11_sure_13 ⟨Nat.le_of_ble_eq_true rfl, Nat.le_of_ble_eq_true rfl⟩) hS (fun q _ h => hFc q h) hFc (fun ur5 t H1 locs ht hvm w6 hB hz1 hk1 hS => ?_)
    obtain ⟨u7, rfl⟩ : ∃ z, z = ur5 := ⟨_, rfl⟩
    obtain ⟨hP1, hD1⟩ := hB
    rw [ht] at hP1
    obtain ⟨hP, hD⟩ := va_join (wr := []) (w1 := [(h0, .inr (11, [.ref st, .int 0, .int 0, .ref rp, .int 0, .int 0, .int 0, .int 0, .int 0, .int 0, .ref tp, .int 0, .int 0, .int 0, .int 0, .int 0, .int 0, .int 0, .int 0, .ref cu, .ref lt, .ref od, .ref th, .ref be, .ref ln, .int 0, .ref ma, .int 0, .ref ah, .ref bh, .ref ik, .ref la, .ref lg, .ref ce, .int 0])), (st, .inl (G 0, 196, .inl (fun _ => 0))), (bh, .inl (G 0, 110, .inl u7))]) hP hD [0, 1, 2, 3] [] rfl rfl (by decide) (by decide) hk1 hFc hP1 hD1
    generalize H1 = H at hP hS ⊢
    have hP : va_P (dC, dI) vwCl [(h0, .inr (11, [.ref st, .int 0, .int 0, .ref rp, .int 0, .int 0, .int 0, .int 0, .int 0, .int 0, .ref tp, .int 0, .int 0, .int 0, .int 0, .int 0, .int 0, .int 0, .int 0, .ref cu, .ref lt, .ref od, .ref th, .ref be, .ref ln, .int 0, .ref ma, .int 0, .ref ah, .ref bh, .ref ik, .ref la, .ref lg, .ref ce, .int 0])), (st, .inl (G 0, 196, .inl (fun _ => 0))), (bh, .inl (G 0, 110, .inl u7))] H := hP
    have hD : va_D A [(h0, .inr (11, [.ref st, .int 0, .int 0, .ref rp, .int 0, .int 0, .int 0, .int 0, .int 0, .int 0, .ref tp, .int 0, .int 0, .int 0, .int 0, .int 0, .int 0, .int 0, .int 0, .ref cu, .ref lt, .ref od, .ref th, .ref be, .ref ln, .int 0, .ref ma, .int 0, .ref ah, .ref bh, .ref ik, .ref la, .ref lg, .ref ce, .int 0])), (st, .inl (G 0, 196, .inl (fun _ => 0))), (bh, .inl (G 0, 110, .inl u7))] := hD
    refine lv_aload_n hx hb dX11_sure_16 rfl (lv_at hl 0 rfl) ?_
    refine va_get (D := (dC, dI)) (ci := 11) (v := .ref bh) (C := RX11) (T := TX11) (N := 35) hx hb hg inG11 hown hK.1 hP 0 rfl rfl 29 (by decide) (hg _ wt_907) (fun _ h9 => h9) rfl dX11_sure_17 ?_
    refine lv_aload_n hx hb dX11_sure_20 rfl (lv_at hl 0 rfl) ?_
    have hPc := hP.sub (ws' := [(h0, .inr (11, [.ref st, .int 0, .int 0, .ref rp, .int 0, .int 0, .int 0, .int 0, .int 0, .int 0, .ref tp, .int 0, .int 0, .int 0, .int 0, .int 0, .int 0, .int 0, .int 0, .ref cu, .ref lt, .ref od, .ref th, .ref be, .ref ln, .int 0, .ref ma, .int 0, .ref ah, .ref bh, .ref ik, .ref la, .ref lg, .ref ce, .int 0])), (st, .inl (G 0, 196, .inl (fun _ => 0)))]) [0, 1] rfl
    refine va_calli (va_runV (As := []) (rest := [.ref bh]) ⟨hx, hb, hml, hown, hg⟩ (c_X11_startNow l dC dI G _ h0 st rp tp cu lt od th be ln ma ah bh ik la lg ce ) (kwV hg mfX11_startNow wt_1044 ⟨Nat.le_of_ble_eq_true rfl, Nat.le_of_ble_eq_true rfl⟩) (preVR hK hPc (ci := 11) rfl rfl) rfl rfl hl.1 rfl (lv_room (Nat.le_of_ble_eq_true rfl)) dX11_sure_21 ⟨Nat.le_of_ble_eq_true rfl, Nat.le_of_ble_eq_true rfl⟩) hS (fun q h1 h2 => absurd h2 (Nat.not_le.mpr h1)) (fun q h => hA q (Nat.le_trans hS.1 h)) (fun r8 ur8 t H1 locs ht hvm w9 hB hz1 hk1 hS => ?_)
    have hP := keepR hP hk1
    obtain ⟨w9, w9x⟩ := w9
    subst w9
    refine va_iald hx hb hK.1 hP 2 0 rfl rfl (vp_in_iff.mpr ⟨by decide, by decide⟩) dX11_sure_24 ?_
    refine lv_cg (y := 1) (w6) ?_
    refine lv_istore_n (lv' := [(2, .int 1), (0, .ref h0), (1, .int what)]) hx hb dX11_sure_25 rfl hl (by decide) rfl (fun ls hl => ?_)
    refine lv_iload_n hx hb dX11_sure_26 rfl (lv_at hl 0 rfl) ?_
    refine lv_if_ne (tgt := 33) hx hb dX11_sure_27 (by decide) (fun c10 => ?_) (fun c10 => ?_)
    · skip
      refine lv_iconst (v := 0) hx hb dX11_sure_33 (by decide) ?_
      refine lv_istore_n (lv' := [(3, .int 0), (2, .int 1), (0, .ref h0), (1, .int what)]) hx hb dX11_sure_34 rfl hl (by decide) rfl (fun ls hl => ?_)
      refine lv_iconst (v := 0) hx hb dX11_sure_35 (by decide) ?_
      refine lv_istore (lv' := [(4, .int 0), (3, .int 0), (2, .int 1), (0, .ref h0), (1, .int what)]) hx hb dX11_sure_36 hl (by decide) rfl (fun ls hl => ?_)
      refine lv_iload hx hb dX11_sure_38 (lv_at hl 0 rfl) ?_
      refine lv_aload_n hx hb dX11_sure_40 rfl (lv_at hl 3 rfl) ?_
      refine va_get (D := (dC, dI)) (ci := 11) (v := .int 0) (C := RX11) (T := TX11) (N := 35) hx hb hg inG11 hown hK.1 hP 0 rfl rfl 1 (by decide) (hg _ wt_879) (fun _ h9 => h9) rfl dX11_sure_41 ?_
      refine lv_icmp_ge (tgt := 125) hx hb dX11_sure_44 (by decide) (fun c11 => ?_) (fun c11 => ?_)
      · skip
        refine lv_iload_n hx hb dX11_sure_125 rfl (lv_at hl 1 rfl) ?_
        have hpost : (0 : Int32) = if 0 ≤ what.toInt ∧ what.toInt ≤ 1 then 0 else -1 := by
          have t_b4 := b4
          have t_c10 := neI c10
          have t_c11 := leI c11
          have : (0 : Int32).toInt = 0 := (by decide)
          have : (1 : Int32).toInt = 1 := (by decide)
          first | rfl | ((repeat' split) <;> first | rfl | omega)
        refine W.widen (k := 0) (n := 0) (by omega) (by omega) ?_
        exact W.iret (v := 0) hx hb hr (fun t ht hW => ⟨⟨0, (), rfl, ⟨hpost, trivial⟩, trivial⟩, hS.F ht⟩) hS.2.2 dX11_sure_126
      · skip
        exact absurd c11 (by decide)
    · skip
      exact absurd c10 (by decide)
  · skip
    have b12 := if10_n c3
    refine lv_iconst (v := (-1)) hx hb dX11_sure_10 (by decide) ?_
    have hpost : ((-1) : Int32) = if 0 ≤ what.toInt ∧ what.toInt ≤ 1 then 0 else -1 := by
      have t_b12 := b12
      first | rfl | ((repeat' split) <;> first | rfl | omega)
    refine W.widen (k := 0) (n := 0) (by omega) (by omega) ?_
    exact W.iret (v := (-1)) hx hb hr (fun t ht hW => ⟨⟨(-1), (), rfl, ⟨hpost, trivial⟩, trivial⟩, hS.F ht⟩) hS.2.2 dX11_sure_11

set_option maxHeartbeats 4000000 in
set_option maxRecDepth 100000 in
theorem c_X11_keep (l : Launch) (dC : Nat → ClassId) (dI : Nat → Nat → Nat) (G : Nat → ClassId) (sz : Nat) (h0 st rp tp cu lt od th be ln ma ah bh ik la lg ce : Nat) (k : Int32)    : Met l yX11_keep (Cond.code yX11_keep cX11_keep 3 (some .int) :: GT) ({ frames := 1, cells := 0, slots := 0, locals := 25 } : Room) (PcW [.ref h0, .int k] dC dI G [(h0, .inr (11, [.ref st, .int 0, .int 0, .ref rp, .int 0, .int 0, .int 0, .int 0, .int 0, .int 0, .ref tp, .int 0, .int 0, .int 0, .int 0, .int 0, .int 0, .int 0, .int 0, .ref cu, .ref lt, .ref od, .ref th, .ref be, .ref ln, .int 0, .ref ma, .int 0, .ref ah, .ref bh, .ref ik, .ref la, .ref lg, .ref ce, .int 0])), (st, .inl (G 0, 196, .inl (fun _ => 0))), (ik, .inl (G 2, 2, .inl (fun _ => 0)))] sz) (va_Qi (fun (r : Int32) (u : Unit) => match u with | _ => (r = if 0 ≤ k.toInt ∧ k.toInt < 2 then 0 else -1) ∧ True) (fun _ _ => True) (va_A [(h0, .inr (11, [.ref st, .int 0, .int 0, .ref rp, .int 0, .int 0, .int 0, .int 0, .int 0, .int 0, .ref tp, .int 0, .int 0, .int 0, .int 0, .int 0, .int 0, .int 0, .int 0, .ref cu, .ref lt, .ref od, .ref th, .ref be, .ref ln, .int 0, .ref ma, .int 0, .ref ah, .ref bh, .ref ik, .ref la, .ref lg, .ref ce, .int 0])), (st, .inl (G 0, 196, .inl (fun _ => 0))), (ik, .inl (G 2, 2, .inl (fun _ => 0)))] sz)) 0 0 (va_A [(h0, .inr (11, [.ref st, .int 0, .int 0, .ref rp, .int 0, .int 0, .int 0, .int 0, .int 0, .int 0, .ref tp, .int 0, .int 0, .int 0, .int 0, .int 0, .int 0, .int 0, .int 0, .ref cu, .ref lt, .ref od, .ref th, .ref be, .ref ln, .int 0, .ref ma, .int 0, .ref ah, .ref bh, .ref ik, .ref la, .ref lg, .ref ce, .int 0])), (st, .inl (G 0, 196, .inl (fun _ => 0))), (ik, .inl (G 2, 2, .inl (fun _ => 0)))] sz) := by
  refine Met.ofW (cc := cX11_keep) (maxL := 3) (ret := (some .int)) (by decide) rfl ?_
  intro p e s m args below meth c s₁ B hml hv
  obtain ⟨rfl, hsz, hP, hK, hD0⟩ := hv
  have hx := B.exec
  have hb := B.bytes
  have hr := B.returns
  have hg : ∀ w ∈ GT, w.before ([.ref h0, .int k] : List Value).toArray s = true := fun w h => atoms_spec (ws := Cond.code yX11_keep cX11_keep 3 (some .int) :: GT) B.pre w (List.mem_cons_of_mem _ h)
  have hown : s.vm.findClass RX11 = some m.cls := findClass_of_methodNamed B.named
  have hlocks := B.notSynchronized
  subst hsz
  have hD := hD0.self (sz := s.heap.size)
  generalize hAe : va_A [(h0, .inr (11, [.ref st, .int 0, .int 0, .ref rp, .int 0, .int 0, .int 0, .int 0, .int 0, .int 0, .ref tp, .int 0, .int 0, .int 0, .int 0, .int 0, .int 0, .int 0, .int 0, .ref cu, .ref lt, .ref od, .ref th, .ref be, .ref ln, .int 0, .ref ma, .int 0, .ref ah, .ref bh, .ref ik, .ref la, .ref lg, .ref ce, .int 0])), (st, .inl (G 0, 196, .inl (fun _ => 0))), (ik, .inl (G 2, 2, .inl (fun _ => 0)))] s.heap.size = A at hD ⊢
  have hA : ∀ q : Nat, s.heap.size ≤ q → A q := fun q h => by rw [← hAe]; exact Or.inr h
  have hS : va_S A s.heap s.heap [] := va_S.rf
  have hl := lv_entry ([.ref h0, .int k]) (n := 3) (Nat.le_of_ble_eq_true rfl)
  rw [lg_entry_eq]
  generalize (lg_sl ([.ref h0, .int k]) ++ List.replicate (3 - (lg_sl ([.ref h0, .int k])).length) Slot.unset).toArray = ls at hl ⊢
  have hl : lv_has ls 3 [(0, .ref h0), (1, .int k)] := hl
  refine lv_iload_n hx hb dX11_keep_0 rfl (lv_at hl 1 rfl) ?_
  refine lv_i2l (v := k.toInt64) hx hb dX11_keep_1 rfl ?_
  refine lv_lconst (v := 0) hx hb dX11_keep_2 (by decide) ?_
  refine lv_lconst (v := 1) hx hb dX11_keep_3 (by decide) ?_
  have hPc := hP.sub (ws' := []) [] rfl
  refine va_calli (va_runS (As := [.long k.toInt64, .long 0, .long 1]) (rest := []) ⟨hx, hb, hml, hown, hg⟩ (c_X11_in l dC dI G _ k.toInt64 0 1 ) (kwS hg mfX11_in wt_992 ⟨Nat.le_of_ble_eq_true rfl, Nat.le_of_ble_eq_true rfl⟩) (preSR hK hPc) rfl rfl hl.1 rfl (lv_room (Nat.le_of_ble_eq_true rfl)) dX11_keep_4 ⟨Nat.le_of_ble_eq_true rfl, Nat.le_of_ble_eq_true rfl⟩) hS (fun q h1 h2 => absurd h2 (Nat.not_le.mpr h1)) (fun q h => hA q (Nat.le_trans hS.1 h)) (fun r1 ur1 t H1 locs ht hvm w2 hB hz1 hk1 hS => ?_)
  have hP := keepR hP hk1
  obtain ⟨w2, w2x⟩ := w2
  try simp only [l_ii, show (0 : Int64).toInt = 0 from by decide, show (1 : Int64).toInt = 1 from by decide] at w2
  subst w2
  refine lv_if_ne (tgt := 12) hx hb dX11_keep_7 (by decide) (fun c3 => ?_) (fun c3 => ?_)
  · skip
    have b4 := if10_p c3
    have hsp : k = 0 ∨ k = 1 := by
      have t_b4 := b4
      have : (0 : Int32).toInt = 0 := by decide
      have : (1 : Int32).toInt = 1 := by decide
      rcases (show k.toInt = 0 ∨ k.toInt = 1 by omega) with q | q
      · exact Or.inl (Int32.toInt_inj.mp (by rw [q]; rfl))
      · exact Or.inr ((Int32.toInt_inj.mp (by rw [q]; rfl)))
    rcases hsp with rfl | rfl
    · skip
      refine lv_aload_n hx hb dX11_keep_12 rfl (lv_at hl 0 rfl) ?_
      refine lv_iconst (v := 0) hx hb dX11_keep_13 (by decide) ?_
      refine lv_bipush (v := 49) hx hb dX11_keep_14 (by decide) ?_
      refine lv_iload_n hx hb dX11_keep_16 rfl (lv_at hl 1 rfl) ?_
      refine lv_iconst (v := 1) hx hb dX11_keep_17 (by decide) ?_
      refine lv_iadd hx hb dX11_keep_18 ?_
      refine lv_cg (y := 1) (by decide) ?_
      refine lv_imul hx hb dX11_keep_19 ?_
      refine lv_cg (y := 49) (by decide) ?_
      have hPc := hP.sub (ws' := [(h0, .inr (11, [.ref st, .int 0, .int 0, .ref rp, .int 0, .int 0, .int 0, .int 0, .int 0, .int 0, .ref tp, .int 0, .int 0, .int 0, .int 0, .int 0, .int 0, .int 0, .int 0, .ref cu, .ref lt, .ref od, .ref th, .ref be, .ref ln, .int 0, .ref ma, .int 0, .ref ah, .ref bh, .ref ik, .ref la, .ref lg, .ref ce, .int 0])), (st, .inl (G 0, 196, .inl (fun _ => 0)))]) [0, 1] rfl
      have hDc := hD.sub (ws' := [(h0, .inr (11, [.ref st, .int 0, .int 0, .ref rp, .int 0, .int 0, .int 0, .int 0, .int 0, .int 0, .ref tp, .int 0, .int 0, .int 0, .int 0, .int 0, .int 0, .int 0, .int 0, .ref cu, .ref lt, .ref od, .ref th, .ref be, .ref ln, .int 0, .ref ma, .int 0, .ref ah, .ref bh, .ref ik, .ref la, .ref lg, .ref ce, .int 0])), (st, .inl (G 0, 196, .inl (fun _ => 0)))]) [0, 1] (by decide) rfl
      have hFc := va_free (wc := [(h0, .inr (11, [.ref st, .int 0, .int 0, .ref rp, .int 0, .int 0, .int 0, .int 0, .int 0, .int 0, .ref tp, .int 0, .int 0, .int 0, .int 0, .int 0, .int 0, .int 0, .int 0, .ref cu, .ref lt, .ref od, .ref th, .ref be, .ref ln, .int 0, .ref ma, .int 0, .ref ah, .ref bh, .ref ik, .ref la, .ref lg, .ref ce, .int 0])), (st, .inl (G 0, 196, .inl (fun _ => 0)))]) hD hS hA [0, 1] rfl
      refine va_callv (va_runV (As := [.int 0, .int 49]) (rest := []) ⟨hx, hb, hml, hown, hg⟩ (c_X11_copies49 l dC dI G _ h0 st rp tp cu lt od th be ln ma ah bh ik la lg ce (fun _ => 0) ) (kwV hg mfX11_copies wt_1248 ⟨Nat.le_of_ble_eq_true rfl, Nat.le_of_ble_eq_true rfl⟩) (preVW hK hPc hDc (ci := 11) rfl rfl) rfl rfl hl.1 rfl (lv_room (Nat.le_of_ble_eq_true rfl)) dX11_keep_20 ⟨Nat.le_of_ble_eq_true rfl, Nat.le_of_ble_eq_true rfl⟩) hS (fun q _ h => hFc q h) hFc (fun ur5 t H1 locs ht hvm w6 hB hz1 hk1 hS => ?_)
      obtain ⟨u7, rfl⟩ : ∃ z, z = ur5 := ⟨_, rfl⟩
      obtain ⟨hP1, hD1⟩ := hB
      rw [ht] at hP1
      obtain ⟨hP, hD⟩ := va_join (wr := [(ik, .inl (G 2, 2, .inl (fun _ => 0)))]) (w1 := [(h0, .inr (11, [.ref st, .int 0, .int 0, .ref rp, .int 0, .int 0, .int 0, .int 0, .int 0, .int 0, .ref tp, .int 0, .int 0, .int 0, .int 0, .int 0, .int 0, .int 0, .int 0, .ref cu, .ref lt, .ref od, .ref th, .ref be, .ref ln, .int 0, .ref ma, .int 0, .ref ah, .ref bh, .ref ik, .ref la, .ref lg, .ref ce, .int 0])), (st, .inl (G 0, 196, .inl u7))]) hP hD [0, 1] [2] rfl rfl (by decide) (by decide) hk1 hFc hP1 hD1
      generalize H1 = H at hP hS ⊢
      have hP : va_P (dC, dI) vwCl [(ik, .inl (G 2, 2, .inl (fun _ => 0))), (h0, .inr (11, [.ref st, .int 0, .int 0, .ref rp, .int 0, .int 0, .int 0, .int 0, .int 0, .int 0, .ref tp, .int 0, .int 0, .int 0, .int 0, .int 0, .int 0, .int 0, .int 0, .ref cu, .ref lt, .ref od, .ref th, .ref be, .ref ln, .int 0, .ref ma, .int 0, .ref ah, .ref bh, .ref ik, .ref la, .ref lg, .ref ce, .int 0])), (st, .inl (G 0, 196, .inl u7))] H := hP
      have hD : va_D A [(ik, .inl (G 2, 2, .inl (fun _ => 0))), (h0, .inr (11, [.ref st, .int 0, .int 0, .ref rp, .int 0, .int 0, .int 0, .int 0, .int 0, .int 0, .ref tp, .int 0, .int 0, .int 0, .int 0, .int 0, .int 0, .int 0, .int 0, .ref cu, .ref lt, .ref od, .ref th, .ref be, .ref ln, .int 0, .ref ma, .int 0, .ref ah, .ref bh, .ref ik, .ref la, .ref lg, .ref ce, .int 0])), (st, .inl (G 0, 196, .inl u7))] := hD
      refine lv_aload_n hx hb dX11_keep_23 rfl (lv_at hl 0 rfl) ?_
      refine va_get (D := (dC, dI)) (ci := 11) (v := .ref ik) (C := RX11) (T := TX11) (N := 35) hx hb hg inG11 hown hK.1 hP 1 rfl rfl 30 (by decide) (hg _ wt_908) (fun _ h9 => h9) rfl dX11_keep_24 ?_
      refine lv_iload_n hx hb dX11_keep_27 rfl (lv_at hl 1 rfl) ?_
      refine va_zald hx hb hK.1 hP 0 2 rfl rfl (vp_in_iff.mpr ⟨by decide, by decide⟩) dX11_keep_28 ?_
      refine lv_cg (y := 0) (by rfl) ?_
      refine lv_if_eq (tgt := 36) hx hb dX11_keep_29 (by decide) (fun c8 => ?_) (fun c8 => ?_)
      · skip
        refine lv_iconst (v := 0) hx hb dX11_keep_36 (by decide) ?_
        refine lv_istore_n (lv' := [(2, .int 0), (0, .ref h0), (1, .int 0)]) hx hb dX11_keep_37 rfl hl (by decide) rfl (fun ls hl => ?_)
        refine lv_aload_n hx hb dX11_keep_38 rfl (lv_at hl 1 rfl) ?_
        refine va_get (D := (dC, dI)) (ci := 11) (v := .ref ik) (C := RX11) (T := TX11) (N := 35) hx hb hg inG11 hown hK.1 hP 1 rfl rfl 30 (by decide) (hg _ wt_908) (fun _ h9 => h9) rfl dX11_keep_39 ?_
        refine lv_iload_n hx hb dX11_keep_42 rfl (lv_at hl 2 rfl) ?_
        refine lv_iconst (v := 1) hx hb dX11_keep_43 (by decide) ?_
        refine va_zast hx hb hK.1 hP hD hS 0 2 rfl rfl (vp_in_iff.mpr ⟨by decide, by decide⟩) dX11_keep_44 (fun H locs hP hD hS => ?_)
        have hP : va_P (dC, dI) vwCl [(ik, .inl (G 2, 2, .inl (upd (fun _ => 0) 0 1))), (h0, .inr (11, [.ref st, .int 0, .int 0, .ref rp, .int 0, .int 0, .int 0, .int 0, .int 0, .int 0, .ref tp, .int 0, .int 0, .int 0, .int 0, .int 0, .int 0, .int 0, .int 0, .ref cu, .ref lt, .ref od, .ref th, .ref be, .ref ln, .int 0, .ref ma, .int 0, .ref ah, .ref bh, .ref ik, .ref la, .ref lg, .ref ce, .int 0])), (st, .inl (G 0, 196, .inl u7))] H := hP
        have hD : va_D A [(ik, .inl (G 2, 2, .inl (upd (fun _ => 0) 0 1))), (h0, .inr (11, [.ref st, .int 0, .int 0, .ref rp, .int 0, .int 0, .int 0, .int 0, .int 0, .int 0, .ref tp, .int 0, .int 0, .int 0, .int 0, .int 0, .int 0, .int 0, .int 0, .ref cu, .ref lt, .ref od, .ref th, .ref be, .ref ln, .int 0, .ref ma, .int 0, .ref ah, .ref bh, .ref ik, .ref la, .ref lg, .ref ce, .int 0])), (st, .inl (G 0, 196, .inl u7))] := hD
        refine lv_iload_n hx hb dX11_keep_45 rfl (lv_at hl 0 rfl) ?_
        have hpost : (0 : Int32) = if 0 ≤ (0 : Int32).toInt ∧ (0 : Int32).toInt < 2 then 0 else -1 := by
          have t_c8 := eqI c8
          have : (0 : Int32).toInt = 0 := (by decide)
          first | rfl | ((repeat' split) <;> first | rfl | omega)
        refine W.widen (k := 0) (n := 0) (by omega) (by omega) ?_
        exact W.iret (v := 0) hx hb hr (fun t ht hW => ⟨⟨0, (), rfl, ⟨hpost, trivial⟩, trivial⟩, hS.F ht⟩) hS.2.2 dX11_keep_46
      · skip
        exact absurd c8 (by decide)
    · skip
      refine lv_aload_n hx hb dX11_keep_12 rfl (lv_at hl 0 rfl) ?_
      refine lv_iconst (v := 0) hx hb dX11_keep_13 (by decide) ?_
      refine lv_bipush (v := 49) hx hb dX11_keep_14 (by decide) ?_
      refine lv_iload_n hx hb dX11_keep_16 rfl (lv_at hl 1 rfl) ?_
      refine lv_iconst (v := 1) hx hb dX11_keep_17 (by decide) ?_
      refine lv_iadd hx hb dX11_keep_18 ?_
      refine lv_cg (y := 2) (by decide) ?_
      refine lv_imul hx hb dX11_keep_19 ?_
      refine lv_cg (y := 98) (by decide) ?_
      have hPc := hP.sub (ws' := [(h0, .inr (11, [.ref st, .int 0, .int 0, .ref rp, .int 0, .int 0, .int 0, .int 0, .int 0, .int 0, .ref tp, .int 0, .int 0, .int 0, .int 0, .int 0, .int 0, .int 0, .int 0, .ref cu, .ref lt, .ref od, .ref th, .ref be, .ref ln, .int 0, .ref ma, .int 0, .ref ah, .ref bh, .ref ik, .ref la, .ref lg, .ref ce, .int 0])), (st, .inl (G 0, 196, .inl (fun _ => 0)))]) [0, 1] rfl
      have hDc := hD.sub (ws' := [(h0, .inr (11, [.ref st, .int 0, .int 0, .ref rp, .int 0, .int 0, .int 0, .int 0, .int 0, .int 0, .ref tp, .int 0, .int 0, .int 0, .int 0, .int 0, .int 0, .int 0, .int 0, .ref cu, .ref lt, .ref od, .ref th, .ref be, .ref ln, .int 0, .ref ma, .int 0, .ref ah, .ref bh, .ref ik, .ref la, .ref lg, .ref ce, .int 0])), (st, .inl (G 0, 196, .inl (fun _ => 0)))]) [0, 1] (by decide) rfl
      have hFc := va_free (wc := [(h0, .inr (11, [.ref st, .int 0, .int 0, .ref rp, .int 0, .int 0, .int 0, .int 0, .int 0, .int 0, .ref tp, .int 0, .int 0, .int 0, .int 0, .int 0, .int 0, .int 0, .int 0, .ref cu, .ref lt, .ref od, .ref th, .ref be, .ref ln, .int 0, .ref ma, .int 0, .ref ah, .ref bh, .ref ik, .ref la, .ref lg, .ref ce, .int 0])), (st, .inl (G 0, 196, .inl (fun _ => 0)))]) hD hS hA [0, 1] rfl
      refine va_callv (va_runV (As := [.int 0, .int 98]) (rest := []) ⟨hx, hb, hml, hown, hg⟩ (c_X11_copies98 l dC dI G _ h0 st rp tp cu lt od th be ln ma ah bh ik la lg ce (fun _ => 0) ) (kwV hg mfX11_copies wt_1248 ⟨Nat.le_of_ble_eq_true rfl, Nat.le_of_ble_eq_true rfl⟩) (preVW hK hPc hDc (ci := 11) rfl rfl) rfl rfl hl.1 rfl (lv_room (Nat.le_of_ble_eq_true rfl)) dX11_keep_20 ⟨Nat.le_of_ble_eq_true rfl, Nat.le_of_ble_eq_true rfl⟩) hS (fun q _ h => hFc q h) hFc (fun ur9 t H1 locs ht hvm w10 hB hz1 hk1 hS => ?_)
      obtain ⟨u11, rfl⟩ : ∃ z, z = ur9 := ⟨_, rfl⟩
      obtain ⟨hP1, hD1⟩ := hB
      rw [ht] at hP1
      obtain ⟨hP, hD⟩ := va_join (wr := [(ik, .inl (G 2, 2, .inl (fun _ => 0)))]) (w1 := [(h0, .inr (11, [.ref st, .int 0, .int 0, .ref rp, .int 0, .int 0, .int 0, .int 0, .int 0, .int 0, .ref tp, .int 0, .int 0, .int 0, .int 0, .int 0, .int 0, .int 0, .int 0, .ref cu, .ref lt, .ref od, .ref th, .ref be, .ref ln, .int 0, .ref ma, .int 0, .ref ah, .ref bh, .ref ik, .ref la, .ref lg, .ref ce, .int 0])), (st, .inl (G 0, 196, .inl u11))]) hP hD [0, 1] [2] rfl rfl (by decide) (by decide) hk1 hFc hP1 hD1
      generalize H1 = H at hP hS ⊢
      have hP : va_P (dC, dI) vwCl [(ik, .inl (G 2, 2, .inl (fun _ => 0))), (h0, .inr (11, [.ref st, .int 0, .int 0, .ref rp, .int 0, .int 0, .int 0, .int 0, .int 0, .int 0, .ref tp, .int 0, .int 0, .int 0, .int 0, .int 0, .int 0, .int 0, .int 0, .ref cu, .ref lt, .ref od, .ref th, .ref be, .ref ln, .int 0, .ref ma, .int 0, .ref ah, .ref bh, .ref ik, .ref la, .ref lg, .ref ce, .int 0])), (st, .inl (G 0, 196, .inl u11))] H := hP
      have hD : va_D A [(ik, .inl (G 2, 2, .inl (fun _ => 0))), (h0, .inr (11, [.ref st, .int 0, .int 0, .ref rp, .int 0, .int 0, .int 0, .int 0, .int 0, .int 0, .ref tp, .int 0, .int 0, .int 0, .int 0, .int 0, .int 0, .int 0, .int 0, .ref cu, .ref lt, .ref od, .ref th, .ref be, .ref ln, .int 0, .ref ma, .int 0, .ref ah, .ref bh, .ref ik, .ref la, .ref lg, .ref ce, .int 0])), (st, .inl (G 0, 196, .inl u11))] := hD
      refine lv_aload_n hx hb dX11_keep_23 rfl (lv_at hl 0 rfl) ?_
      refine va_get (D := (dC, dI)) (ci := 11) (v := .ref ik) (C := RX11) (T := TX11) (N := 35) hx hb hg inG11 hown hK.1 hP 1 rfl rfl 30 (by decide) (hg _ wt_908) (fun _ h9 => h9) rfl dX11_keep_24 ?_
      refine lv_iload_n hx hb dX11_keep_27 rfl (lv_at hl 1 rfl) ?_
      refine va_zald hx hb hK.1 hP 0 2 rfl rfl (vp_in_iff.mpr ⟨by decide, by decide⟩) dX11_keep_28 ?_
      refine lv_cg (y := 0) (by rfl) ?_
      refine lv_if_eq (tgt := 36) hx hb dX11_keep_29 (by decide) (fun c12 => ?_) (fun c12 => ?_)
      · skip
        refine lv_iconst (v := 0) hx hb dX11_keep_36 (by decide) ?_
        refine lv_istore_n (lv' := [(2, .int 0), (0, .ref h0), (1, .int 1)]) hx hb dX11_keep_37 rfl hl (by decide) rfl (fun ls hl => ?_)
        refine lv_aload_n hx hb dX11_keep_38 rfl (lv_at hl 1 rfl) ?_
        refine va_get (D := (dC, dI)) (ci := 11) (v := .ref ik) (C := RX11) (T := TX11) (N := 35) hx hb hg inG11 hown hK.1 hP 1 rfl rfl 30 (by decide) (hg _ wt_908) (fun _ h9 => h9) rfl dX11_keep_39 ?_
        refine lv_iload_n hx hb dX11_keep_42 rfl (lv_at hl 2 rfl) ?_
        refine lv_iconst (v := 1) hx hb dX11_keep_43 (by decide) ?_
        refine va_zast hx hb hK.1 hP hD hS 0 2 rfl rfl (vp_in_iff.mpr ⟨by decide, by decide⟩) dX11_keep_44 (fun H locs hP hD hS => ?_)
        have hP : va_P (dC, dI) vwCl [(ik, .inl (G 2, 2, .inl (upd (fun _ => 0) 1 1))), (h0, .inr (11, [.ref st, .int 0, .int 0, .ref rp, .int 0, .int 0, .int 0, .int 0, .int 0, .int 0, .ref tp, .int 0, .int 0, .int 0, .int 0, .int 0, .int 0, .int 0, .int 0, .ref cu, .ref lt, .ref od, .ref th, .ref be, .ref ln, .int 0, .ref ma, .int 0, .ref ah, .ref bh, .ref ik, .ref la, .ref lg, .ref ce, .int 0])), (st, .inl (G 0, 196, .inl u11))] H := hP
        have hD : va_D A [(ik, .inl (G 2, 2, .inl (upd (fun _ => 0) 1 1))), (h0, .inr (11, [.ref st, .int 0, .int 0, .ref rp, .int 0, .int 0, .int 0, .int 0, .int 0, .int 0, .ref tp, .int 0, .int 0, .int 0, .int 0, .int 0, .int 0, .int 0, .int 0, .ref cu, .ref lt, .ref od, .ref th, .ref be, .ref ln, .int 0, .ref ma, .int 0, .ref ah, .ref bh, .ref ik, .ref la, .ref lg, .ref ce, .int 0])), (st, .inl (G 0, 196, .inl u11))] := hD
        refine lv_iload_n hx hb dX11_keep_45 rfl (lv_at hl 0 rfl) ?_
        have hpost : (0 : Int32) = if 0 ≤ (1 : Int32).toInt ∧ (1 : Int32).toInt < 2 then 0 else -1 := by
          have t_c12 := eqI c12
          have : (0 : Int32).toInt = 0 := (by decide)
          first | rfl | ((repeat' split) <;> first | rfl | omega)
        refine W.widen (k := 0) (n := 0) (by omega) (by omega) ?_
        exact W.iret (v := 0) hx hb hr (fun t ht hW => ⟨⟨0, (), rfl, ⟨hpost, trivial⟩, trivial⟩, hS.F ht⟩) hS.2.2 dX11_keep_46
      · skip
        exact absurd c12 (by decide)
  · skip
    have b13 := if10_n c3
    refine lv_iconst (v := (-1)) hx hb dX11_keep_10 (by decide) ?_
    have hpost : ((-1) : Int32) = if 0 ≤ k.toInt ∧ k.toInt < 2 then 0 else -1 := by
      have t_b13 := b13
      first | rfl | ((repeat' split) <;> first | rfl | omega)
    refine W.widen (k := 0) (n := 0) (by omega) (by omega) ?_
    exact W.iret (v := (-1)) hx hb hr (fun t ht hW => ⟨⟨(-1), (), rfl, ⟨hpost, trivial⟩, trivial⟩, hS.F ht⟩) hS.2.2 dX11_keep_11

set_option maxHeartbeats 4000000 in
set_option maxRecDepth 100000 in
theorem c_X11_back (l : Launch) (dC : Nat → ClassId) (dI : Nat → Nat → Nat) (G : Nat → ClassId) (sz : Nat) (h0 st rp tp cu lt od th be ln ma ah bh ik la lg ce : Nat) (k : Int32)    : Met l yX11_back (Cond.code yX11_back cX11_back 2 (some .int) :: GT) ({ frames := 1, cells := 0, slots := 0, locals := 25 } : Room) (PcW [.ref h0, .int k] dC dI G [(h0, .inr (11, [.ref st, .int 0, .int 0, .ref rp, .int 0, .int 0, .int 0, .int 0, .int 0, .int 0, .ref tp, .int 0, .int 0, .int 0, .int 0, .int 0, .int 0, .int 0, .int 0, .ref cu, .ref lt, .ref od, .ref th, .ref be, .ref ln, .int 0, .ref ma, .int 0, .ref ah, .ref bh, .ref ik, .ref la, .ref lg, .ref ce, .int 0])), (ik, .inl (G 2, 2, .inl (fun _ => 0)))] sz) (va_Qi (fun (r : Int32) (u : Unit) => match u with | _ => (r = if 0 ≤ k.toInt ∧ k.toInt < 2 then -2 else -1) ∧ True) (fun _ _ => True) (va_A [(h0, .inr (11, [.ref st, .int 0, .int 0, .ref rp, .int 0, .int 0, .int 0, .int 0, .int 0, .int 0, .ref tp, .int 0, .int 0, .int 0, .int 0, .int 0, .int 0, .int 0, .int 0, .ref cu, .ref lt, .ref od, .ref th, .ref be, .ref ln, .int 0, .ref ma, .int 0, .ref ah, .ref bh, .ref ik, .ref la, .ref lg, .ref ce, .int 0])), (ik, .inl (G 2, 2, .inl (fun _ => 0)))] sz)) 0 0 (va_A [(h0, .inr (11, [.ref st, .int 0, .int 0, .ref rp, .int 0, .int 0, .int 0, .int 0, .int 0, .int 0, .ref tp, .int 0, .int 0, .int 0, .int 0, .int 0, .int 0, .int 0, .int 0, .ref cu, .ref lt, .ref od, .ref th, .ref be, .ref ln, .int 0, .ref ma, .int 0, .ref ah, .ref bh, .ref ik, .ref la, .ref lg, .ref ce, .int 0])), (ik, .inl (G 2, 2, .inl (fun _ => 0)))] sz) := by
  refine Met.ofW (cc := cX11_back) (maxL := 2) (ret := (some .int)) (by decide) rfl ?_
  intro p e s m args below meth c s₁ B hml hv
  obtain ⟨rfl, hsz, hP, hK, hD0⟩ := hv
  have hx := B.exec
  have hb := B.bytes
  have hr := B.returns
  have hg : ∀ w ∈ GT, w.before ([.ref h0, .int k] : List Value).toArray s = true := fun w h => atoms_spec (ws := Cond.code yX11_back cX11_back 2 (some .int) :: GT) B.pre w (List.mem_cons_of_mem _ h)
  have hown : s.vm.findClass RX11 = some m.cls := findClass_of_methodNamed B.named
  have hlocks := B.notSynchronized
  subst hsz
  have hD := hD0.self (sz := s.heap.size)
  generalize hAe : va_A [(h0, .inr (11, [.ref st, .int 0, .int 0, .ref rp, .int 0, .int 0, .int 0, .int 0, .int 0, .int 0, .ref tp, .int 0, .int 0, .int 0, .int 0, .int 0, .int 0, .int 0, .int 0, .ref cu, .ref lt, .ref od, .ref th, .ref be, .ref ln, .int 0, .ref ma, .int 0, .ref ah, .ref bh, .ref ik, .ref la, .ref lg, .ref ce, .int 0])), (ik, .inl (G 2, 2, .inl (fun _ => 0)))] s.heap.size = A at hD ⊢
  have hA : ∀ q : Nat, s.heap.size ≤ q → A q := fun q h => by rw [← hAe]; exact Or.inr h
  have hS : va_S A s.heap s.heap [] := va_S.rf
  have hl := lv_entry ([.ref h0, .int k]) (n := 2) (Nat.le_of_ble_eq_true rfl)
  rw [lg_entry_eq]
  generalize (lg_sl ([.ref h0, .int k]) ++ List.replicate (2 - (lg_sl ([.ref h0, .int k])).length) Slot.unset).toArray = ls at hl ⊢
  have hl : lv_has ls 2 [(0, .ref h0), (1, .int k)] := hl
  refine lv_iload_n hx hb dX11_back_0 rfl (lv_at hl 1 rfl) ?_
  refine lv_i2l (v := k.toInt64) hx hb dX11_back_1 rfl ?_
  refine lv_lconst (v := 0) hx hb dX11_back_2 (by decide) ?_
  refine lv_lconst (v := 1) hx hb dX11_back_3 (by decide) ?_
  have hPc := hP.sub (ws' := []) [] rfl
  refine va_calli (va_runS (As := [.long k.toInt64, .long 0, .long 1]) (rest := []) ⟨hx, hb, hml, hown, hg⟩ (c_X11_in l dC dI G _ k.toInt64 0 1 ) (kwS hg mfX11_in wt_992 ⟨Nat.le_of_ble_eq_true rfl, Nat.le_of_ble_eq_true rfl⟩) (preSR hK hPc) rfl rfl hl.1 rfl (lv_room (Nat.le_of_ble_eq_true rfl)) dX11_back_4 ⟨Nat.le_of_ble_eq_true rfl, Nat.le_of_ble_eq_true rfl⟩) hS (fun q h1 h2 => absurd h2 (Nat.not_le.mpr h1)) (fun q h => hA q (Nat.le_trans hS.1 h)) (fun r1 ur1 t H1 locs ht hvm w2 hB hz1 hk1 hS => ?_)
  have hP := keepR hP hk1
  obtain ⟨w2, w2x⟩ := w2
  try simp only [l_ii, show (0 : Int64).toInt = 0 from by decide, show (1 : Int64).toInt = 1 from by decide] at w2
  subst w2
  refine lv_if_ne (tgt := 12) hx hb dX11_back_7 (by decide) (fun c3 => ?_) (fun c3 => ?_)
  · skip
    have b4 := if10_p c3
    refine lv_aload_n hx hb dX11_back_12 rfl (lv_at hl 0 rfl) ?_
    refine va_get (D := (dC, dI)) (ci := 11) (v := .ref ik) (C := RX11) (T := TX11) (N := 35) hx hb hg inG11 hown hK.1 hP 0 rfl rfl 30 (by decide) (hg _ wt_908) (fun _ h9 => h9) rfl dX11_back_13 ?_
    refine lv_iload_n hx hb dX11_back_16 rfl (lv_at hl 1 rfl) ?_
    refine va_zald hx hb hK.1 hP 1 2 rfl rfl (vp_in_iff.mpr (by have t_b4 := b4; constructor <;> omega)) dX11_back_17 ?_
    refine lv_cg (y := 0) (by rfl) ?_
    refine lv_if_ne (tgt := 24) hx hb dX11_back_18 (by decide) (fun c5 => ?_) (fun c5 => ?_)
    · skip
      exact absurd c5 (by decide)
    · skip
      refine lv_bipush (v := (-2)) hx hb dX11_back_21 (by decide) ?_
      have hpost : ((-2) : Int32) = if 0 ≤ k.toInt ∧ k.toInt < 2 then -2 else -1 := by
        have t_b4 := b4
        have t_c5 := eqI c5
        have : (0 : Int32).toInt = 0 := (by decide)
        first | rfl | ((repeat' split) <;> first | rfl | omega)
      refine W.widen (k := 0) (n := 0) (by omega) (by omega) ?_
      exact W.iret (v := (-2)) hx hb hr (fun t ht hW => ⟨⟨(-2), (), rfl, ⟨hpost, trivial⟩, trivial⟩, hS.F ht⟩) hS.2.2 dX11_back_23
  · skip
    have b6 := if10_n c3
    refine lv_iconst (v := (-1)) hx hb dX11_back_10 (by decide) ?_
    have hpost : ((-1) : Int32) = if 0 ≤ k.toInt ∧ k.toInt < 2 then -2 else -1 := by
      have t_b6 := b6
      first | rfl | ((repeat' split) <;> first | rfl | omega)
    refine W.widen (k := 0) (n := 0) (by omega) (by omega) ?_
    exact W.iret (v := (-1)) hx hb hr (fun t ht hW => ⟨⟨(-1), (), rfl, ⟨hpost, trivial⟩, trivial⟩, hS.F ht⟩) hS.2.2 dX11_back_11

set_option maxHeartbeats 4000000 in
set_option maxRecDepth 100000 in
theorem c_X11_sheet (l : Launch) (dC : Nat → ClassId) (dI : Nat → Nat → Nat) (G : Nat → ClassId) (sz : Nat) (h0 st rp tp cu lt od th be ln ma ah bh ik la lg ce : Nat) (k lane n : Int32)    : Met l yX11_sheet (Cond.code yX11_sheet cX11_sheet 5 (some .int) :: GT) ({ frames := 1, cells := 0, slots := 0, locals := 25 } : Room) (PcW [.ref h0, .int k, .int lane, .int n] dC dI G [(h0, .inr (11, [.ref st, .int 0, .int 0, .ref rp, .int 0, .int 0, .int 0, .int 0, .int 0, .int 0, .ref tp, .int 0, .int 0, .int 0, .int 0, .int 0, .int 0, .int 0, .int 0, .ref cu, .ref lt, .ref od, .ref th, .ref be, .ref ln, .int 0, .ref ma, .int 0, .ref ah, .ref bh, .ref ik, .ref la, .ref lg, .ref ce, .int 0])), (la, .inl (G 0, 4, .inl (upd (upd (upd (upd (fun _ => 0) 0 (-4)) 1 (-4)) 2 (-4)) 3 (-4)))), (lg, .inl (G 0, 4, .inl (fun _ => 0))), (ce, .inl (G 0, 160, .inl (fun _ => 0)))] sz) (va_Qi (fun (r : Int32) (u : Unit) => match u with | _ => (r = if (0 ≤ k.toInt ∧ k.toInt < 4) ∧ (0 ≤ lane.toInt ∧ lane.toInt ≤ 2) ∧ n.toInt ≤ 40 then (if n.toInt < 0 then -14 else 1) else -1) ∧ True) (fun _ _ => True) (va_A [(h0, .inr (11, [.ref st, .int 0, .int 0, .ref rp, .int 0, .int 0, .int 0, .int 0, .int 0, .int 0, .ref tp, .int 0, .int 0, .int 0, .int 0, .int 0, .int 0, .int 0, .int 0, .ref cu, .ref lt, .ref od, .ref th, .ref be, .ref ln, .int 0, .ref ma, .int 0, .ref ah, .ref bh, .ref ik, .ref la, .ref lg, .ref ce, .int 0])), (la, .inl (G 0, 4, .inl (upd (upd (upd (upd (fun _ => 0) 0 (-4)) 1 (-4)) 2 (-4)) 3 (-4)))), (lg, .inl (G 0, 4, .inl (fun _ => 0))), (ce, .inl (G 0, 160, .inl (fun _ => 0)))] sz)) 0 0 (va_A [(h0, .inr (11, [.ref st, .int 0, .int 0, .ref rp, .int 0, .int 0, .int 0, .int 0, .int 0, .int 0, .ref tp, .int 0, .int 0, .int 0, .int 0, .int 0, .int 0, .int 0, .int 0, .ref cu, .ref lt, .ref od, .ref th, .ref be, .ref ln, .int 0, .ref ma, .int 0, .ref ah, .ref bh, .ref ik, .ref la, .ref lg, .ref ce, .int 0])), (la, .inl (G 0, 4, .inl (upd (upd (upd (upd (fun _ => 0) 0 (-4)) 1 (-4)) 2 (-4)) 3 (-4)))), (lg, .inl (G 0, 4, .inl (fun _ => 0))), (ce, .inl (G 0, 160, .inl (fun _ => 0)))] sz) := by
  refine Met.ofW (cc := cX11_sheet) (maxL := 5) (ret := (some .int)) (by decide) rfl ?_
  intro p e s m args below meth c s₁ B hml hv
  obtain ⟨rfl, hsz, hP, hK, hD0⟩ := hv
  have hx := B.exec
  have hb := B.bytes
  have hr := B.returns
  have hg : ∀ w ∈ GT, w.before ([.ref h0, .int k, .int lane, .int n] : List Value).toArray s = true := fun w h => atoms_spec (ws := Cond.code yX11_sheet cX11_sheet 5 (some .int) :: GT) B.pre w (List.mem_cons_of_mem _ h)
  have hown : s.vm.findClass RX11 = some m.cls := findClass_of_methodNamed B.named
  have hlocks := B.notSynchronized
  subst hsz
  have hD := hD0.self (sz := s.heap.size)
  generalize hAe : va_A [(h0, .inr (11, [.ref st, .int 0, .int 0, .ref rp, .int 0, .int 0, .int 0, .int 0, .int 0, .int 0, .ref tp, .int 0, .int 0, .int 0, .int 0, .int 0, .int 0, .int 0, .int 0, .ref cu, .ref lt, .ref od, .ref th, .ref be, .ref ln, .int 0, .ref ma, .int 0, .ref ah, .ref bh, .ref ik, .ref la, .ref lg, .ref ce, .int 0])), (la, .inl (G 0, 4, .inl (upd (upd (upd (upd (fun _ => 0) 0 (-4)) 1 (-4)) 2 (-4)) 3 (-4)))), (lg, .inl (G 0, 4, .inl (fun _ => 0))), (ce, .inl (G 0, 160, .inl (fun _ => 0)))] s.heap.size = A at hD ⊢
  have hA : ∀ q : Nat, s.heap.size ≤ q → A q := fun q h => by rw [← hAe]; exact Or.inr h
  have hS : va_S A s.heap s.heap [] := va_S.rf
  have hl := lv_entry ([.ref h0, .int k, .int lane, .int n]) (n := 5) (Nat.le_of_ble_eq_true rfl)
  rw [lg_entry_eq]
  generalize (lg_sl ([.ref h0, .int k, .int lane, .int n]) ++ List.replicate (5 - (lg_sl ([.ref h0, .int k, .int lane, .int n])).length) Slot.unset).toArray = ls at hl ⊢
  have hl : lv_has ls 5 [(0, .ref h0), (1, .int k), (2, .int lane), (3, .int n)] := hl
  refine lv_iload_n hx hb dX11_sheet_0 rfl (lv_at hl 1 rfl) ?_
  refine lv_i2l (v := k.toInt64) hx hb dX11_sheet_1 rfl ?_
  refine lv_lconst (v := 0) hx hb dX11_sheet_2 (by decide) ?_
  refine lv_ldc2 (v := 3) hx hb hown (hg _ wt_1023) dX11_sheet_3 ?_
  have hPc := hP.sub (ws' := []) [] rfl
  refine va_calli (va_runS (As := [.long k.toInt64, .long 0, .long 3]) (rest := []) ⟨hx, hb, hml, hown, hg⟩ (c_X11_in l dC dI G _ k.toInt64 0 3 ) (kwS hg mfX11_in wt_992 ⟨Nat.le_of_ble_eq_true rfl, Nat.le_of_ble_eq_true rfl⟩) (preSR hK hPc) rfl rfl hl.1 rfl (lv_room (Nat.le_of_ble_eq_true rfl)) dX11_sheet_6 ⟨Nat.le_of_ble_eq_true rfl, Nat.le_of_ble_eq_true rfl⟩) hS (fun q h1 h2 => absurd h2 (Nat.not_le.mpr h1)) (fun q h => hA q (Nat.le_trans hS.1 h)) (fun r1 ur1 t H1 locs ht hvm w2 hB hz1 hk1 hS => ?_)
  have hP := keepR hP hk1
  obtain ⟨w2, w2x⟩ := w2
  try simp only [l_ii, show (0 : Int64).toInt = 0 from by decide, show (3 : Int64).toInt = 3 from by decide] at w2
  subst w2
  refine lv_if_eq (tgt := 30) hx hb dX11_sheet_9 (by decide) (fun c3 => ?_) (fun c3 => ?_)
  · skip
    have b4 := if10_n c3
    refine lv_iconst (v := (-1)) hx hb dX11_sheet_30 (by decide) ?_
    have hpost : ((-1) : Int32) = if (0 ≤ k.toInt ∧ k.toInt < 4) ∧ (0 ≤ lane.toInt ∧ lane.toInt ≤ 2) ∧ n.toInt ≤ 40 then (if n.toInt < 0 then -14 else 1) else -1 := by
      have t_b4 := b4
      first | rfl | ((repeat' split) <;> first | rfl | omega)
    refine W.widen (k := 0) (n := 0) (by omega) (by omega) ?_
    exact W.iret (v := (-1)) hx hb hr (fun t ht hW => ⟨⟨(-1), (), rfl, ⟨hpost, trivial⟩, trivial⟩, hS.F ht⟩) hS.2.2 dX11_sheet_31
  · skip
    have b5 := if10_p c3
    refine lv_iload_n hx hb dX11_sheet_12 rfl (lv_at hl 2 rfl) ?_
    refine lv_i2l (v := lane.toInt64) hx hb dX11_sheet_13 rfl ?_
    refine lv_lconst (v := 0) hx hb dX11_sheet_14 (by decide) ?_
    refine lv_ldc2 (v := 2) hx hb hown (hg _ wt_1056) dX11_sheet_15 ?_
    have hPc := hP.sub (ws' := []) [] rfl
    refine va_calli (va_runS (As := [.long lane.toInt64, .long 0, .long 2]) (rest := []) ⟨hx, hb, hml, hown, hg⟩ (c_X11_in l dC dI G _ lane.toInt64 0 2 ) (kwS hg mfX11_in wt_992 ⟨Nat.le_of_ble_eq_true rfl, Nat.le_of_ble_eq_true rfl⟩) (preSR hK hPc) rfl rfl hl.1 rfl (lv_room (Nat.le_of_ble_eq_true rfl)) dX11_sheet_18 ⟨Nat.le_of_ble_eq_true rfl, Nat.le_of_ble_eq_true rfl⟩) hS (fun q h1 h2 => absurd h2 (Nat.not_le.mpr h1)) (fun q h => hA q (Nat.le_trans hS.1 h)) (fun r6 ur6 t H1 locs ht hvm w7 hB hz1 hk1 hS => ?_)
    have hP := keepR hP hk1
    obtain ⟨w7, w7x⟩ := w7
    try simp only [l_ii, show (0 : Int64).toInt = 0 from by decide, show (2 : Int64).toInt = 2 from by decide] at w7
    subst w7
    refine lv_if_eq (tgt := 30) hx hb dX11_sheet_21 (by decide) (fun c8 => ?_) (fun c8 => ?_)
    · skip
      have b9 := if10_n c8
      refine lv_iconst (v := (-1)) hx hb dX11_sheet_30 (by decide) ?_
      have hpost : ((-1) : Int32) = if (0 ≤ k.toInt ∧ k.toInt < 4) ∧ (0 ≤ lane.toInt ∧ lane.toInt ≤ 2) ∧ n.toInt ≤ 40 then (if n.toInt < 0 then -14 else 1) else -1 := by
        have t_b5 := b5
        have t_b9 := b9
        first | rfl | ((repeat' split) <;> first | rfl | omega)
      refine W.widen (k := 0) (n := 0) (by omega) (by omega) ?_
      exact W.iret (v := (-1)) hx hb hr (fun t ht hW => ⟨⟨(-1), (), rfl, ⟨hpost, trivial⟩, trivial⟩, hS.F ht⟩) hS.2.2 dX11_sheet_31
    · skip
      have b10 := if10_p c8
      refine lv_iload_n hx hb dX11_sheet_24 rfl (lv_at hl 3 rfl) ?_
      refine lv_bipush (v := 40) hx hb dX11_sheet_25 (by decide) ?_
      refine lv_icmp_le (tgt := 32) hx hb dX11_sheet_27 (by decide) (fun c11 => ?_) (fun c11 => ?_)
      · skip
        refine lv_iload_n hx hb dX11_sheet_32 rfl (lv_at hl 3 rfl) ?_
        refine lv_if_ge (tgt := 39) hx hb dX11_sheet_33 (by decide) (fun c12 => ?_) (fun c12 => ?_)
        · skip
          have hsp : k = 0 ∨ k = 1 ∨ k = 2 ∨ k = 3 := by
            have t_b5 := b5
            have t_b10 := b10
            have t_c11 := leI c11
            have t_c12 := leI c12
            have : (0 : Int32).toInt = 0 := (by decide)
            have : (40 : Int32).toInt = 40 := (by decide)
            have : (0 : Int32).toInt = 0 := by decide
            have : (1 : Int32).toInt = 1 := by decide
            have : (2 : Int32).toInt = 2 := by decide
            have : (3 : Int32).toInt = 3 := by decide
            rcases (show k.toInt = 0 ∨ k.toInt = 1 ∨ k.toInt = 2 ∨ k.toInt = 3 by omega) with q | q | q | q
            · exact Or.inl (Int32.toInt_inj.mp (by rw [q]; rfl))
            · exact Or.inr (Or.inl (Int32.toInt_inj.mp (by rw [q]; rfl)))
            · exact Or.inr (Or.inr (Or.inl (Int32.toInt_inj.mp (by rw [q]; rfl))))
            · exact Or.inr (Or.inr (Or.inr ((Int32.toInt_inj.mp (by rw [q]; rfl)))))
          rcases hsp with rfl | rfl | rfl | rfl
          · skip
            refine lv_aload_n hx hb dX11_sheet_39 rfl (lv_at hl 0 rfl) ?_
            refine va_get (D := (dC, dI)) (ci := 11) (v := .ref la) (C := RX11) (T := TX11) (N := 35) hx hb hg inG11 hown hK.1 hP 0 rfl rfl 31 (by decide) (hg _ wt_909) (fun _ h9 => h9) rfl dX11_sheet_40 ?_
            refine lv_iload_n hx hb dX11_sheet_43 rfl (lv_at hl 1 rfl) ?_
            refine lv_iload_n hx hb dX11_sheet_44 rfl (lv_at hl 2 rfl) ?_
            refine va_iast hx hb hK.1 hP hD hS 1 0 rfl rfl (vp_in_iff.mpr ⟨by decide, by decide⟩) dX11_sheet_45 (fun H locs hP hD hS => ?_)
            have hP : va_P (dC, dI) vwCl [(h0, .inr (11, [.ref st, .int 0, .int 0, .ref rp, .int 0, .int 0, .int 0, .int 0, .int 0, .int 0, .ref tp, .int 0, .int 0, .int 0, .int 0, .int 0, .int 0, .int 0, .int 0, .ref cu, .ref lt, .ref od, .ref th, .ref be, .ref ln, .int 0, .ref ma, .int 0, .ref ah, .ref bh, .ref ik, .ref la, .ref lg, .ref ce, .int 0])), (la, .inl (G 0, 4, .inl (upd (upd (upd (upd (upd (fun _ => 0) 0 (-4)) 1 (-4)) 2 (-4)) 3 (-4)) 0 lane))), (lg, .inl (G 0, 4, .inl (fun _ => 0))), (ce, .inl (G 0, 160, .inl (fun _ => 0)))] H := hP
            have hD : va_D A [(h0, .inr (11, [.ref st, .int 0, .int 0, .ref rp, .int 0, .int 0, .int 0, .int 0, .int 0, .int 0, .ref tp, .int 0, .int 0, .int 0, .int 0, .int 0, .int 0, .int 0, .int 0, .ref cu, .ref lt, .ref od, .ref th, .ref be, .ref ln, .int 0, .ref ma, .int 0, .ref ah, .ref bh, .ref ik, .ref la, .ref lg, .ref ce, .int 0])), (la, .inl (G 0, 4, .inl (upd (upd (upd (upd (upd (fun _ => 0) 0 (-4)) 1 (-4)) 2 (-4)) 3 (-4)) 0 lane))), (lg, .inl (G 0, 4, .inl (fun _ => 0))), (ce, .inl (G 0, 160, .inl (fun _ => 0)))] := hD
            refine lv_aload_n hx hb dX11_sheet_46 rfl (lv_at hl 0 rfl) ?_
            refine va_get (D := (dC, dI)) (ci := 11) (v := .ref lg) (C := RX11) (T := TX11) (N := 35) hx hb hg inG11 hown hK.1 hP 0 rfl rfl 32 (by decide) (hg _ wt_910) (fun _ h9 => h9) rfl dX11_sheet_47 ?_
            refine lv_iload_n hx hb dX11_sheet_50 rfl (lv_at hl 1 rfl) ?_
            refine lv_iload_n hx hb dX11_sheet_51 rfl (lv_at hl 3 rfl) ?_
            refine va_iast hx hb hK.1 hP hD hS 2 0 rfl rfl (vp_in_iff.mpr ⟨by decide, by decide⟩) dX11_sheet_52 (fun H locs hP hD hS => ?_)
            have hP : va_P (dC, dI) vwCl [(h0, .inr (11, [.ref st, .int 0, .int 0, .ref rp, .int 0, .int 0, .int 0, .int 0, .int 0, .int 0, .ref tp, .int 0, .int 0, .int 0, .int 0, .int 0, .int 0, .int 0, .int 0, .ref cu, .ref lt, .ref od, .ref th, .ref be, .ref ln, .int 0, .ref ma, .int 0, .ref ah, .ref bh, .ref ik, .ref la, .ref lg, .ref ce, .int 0])), (la, .inl (G 0, 4, .inl (upd (upd (upd (upd (upd (fun _ => 0) 0 (-4)) 1 (-4)) 2 (-4)) 3 (-4)) 0 lane))), (lg, .inl (G 0, 4, .inl (upd (fun _ => 0) 0 n))), (ce, .inl (G 0, 160, .inl (fun _ => 0)))] H := hP
            have hD : va_D A [(h0, .inr (11, [.ref st, .int 0, .int 0, .ref rp, .int 0, .int 0, .int 0, .int 0, .int 0, .int 0, .ref tp, .int 0, .int 0, .int 0, .int 0, .int 0, .int 0, .int 0, .int 0, .ref cu, .ref lt, .ref od, .ref th, .ref be, .ref ln, .int 0, .ref ma, .int 0, .ref ah, .ref bh, .ref ik, .ref la, .ref lg, .ref ce, .int 0])), (la, .inl (G 0, 4, .inl (upd (upd (upd (upd (upd (fun _ => 0) 0 (-4)) 1 (-4)) 2 (-4)) 3 (-4)) 0 lane))), (lg, .inl (G 0, 4, .inl (upd (fun _ => 0) 0 n))), (ce, .inl (G 0, 160, .inl (fun _ => 0)))] := hD
            refine lv_iconst (v := 0) hx hb dX11_sheet_53 (by decide) ?_
            refine lv_istore (lv' := [(4, .int 0), (0, .ref h0), (1, .int 0), (2, .int lane), (3, .int n)]) hx hb dX11_sheet_54 hl (by decide) rfl (fun ls hl => ?_)
            have loop56 : ∀ (nf j : Nat), 40 + 1 ≤ j + nf → j ≤ 40 → ∀ (g : Nat → Int32) (H : Heap) (locs : List Loc), va_P (dC, dI) vwCl [(h0, .inr (11, [.ref st, .int 0, .int 0, .ref rp, .int 0, .int 0, .int 0, .int 0, .int 0, .int 0, .ref tp, .int 0, .int 0, .int 0, .int 0, .int 0, .int 0, .int 0, .int 0, .ref cu, .ref lt, .ref od, .ref th, .ref be, .ref ln, .int 0, .ref ma, .int 0, .ref ah, .ref bh, .ref ik, .ref la, .ref lg, .ref ce, .int 0])), (la, .inl (G 0, 4, .inl (upd (upd (upd (upd (upd (fun _ => 0) 0 (-4)) 1 (-4)) 2 (-4)) 3 (-4)) 0 lane))), (lg, .inl (G 0, 4, .inl (upd (fun _ => 0) 0 n))), (ce, .inl (G 0, 160, .inl g))] H → va_D A [(h0, .inr (11, [.ref st, .int 0, .int 0, .ref rp, .int 0, .int 0, .int 0, .int 0, .int 0, .int 0, .ref tp, .int 0, .int 0, .int 0, .int 0, .int 0, .int 0, .int 0, .int 0, .ref cu, .ref lt, .ref od, .ref th, .ref be, .ref ln, .int 0, .ref ma, .int 0, .ref ah, .ref bh, .ref ik, .ref la, .ref lg, .ref ce, .int 0])), (la, .inl (G 0, 4, .inl (upd (upd (upd (upd (upd (fun _ => 0) 0 (-4)) 1 (-4)) 2 (-4)) 3 (-4)) 0 lane))), (lg, .inl (G 0, 4, .inl (upd (fun _ => 0) 0 n))), (ce, .inl (G 0, 160, .inl g))] → va_S A s.heap H locs → ∀ (ls : Array Slot), lv_has ls 5 [(4, .int (nI j)), (0, .ref h0), (1, .int 0), (2, .int lane), (3, .int n)] → W p l e (headSpec (Cond.code yX11_sheet cX11_sheet 5 (some .int) :: GT) ({ frames := 1, cells := 0, slots := 0, locals := 25 } : Room)).room s m ([.ref h0, .int (0 : Int32), .int lane, .int n] : List Value).toArray below meth c H locs 0 0 (MQ below (va_Qi (fun (r : Int32) (u : Unit) => match u with | _ => (r = if (0 ≤ (0 : Int32).toInt ∧ (0 : Int32).toInt < 4) ∧ (0 ≤ lane.toInt ∧ lane.toInt ≤ 2) ∧ n.toInt ≤ 40 then (if n.toInt < 0 then -14 else 1) else -1) ∧ True) (fun _ _ => True) A) ([.ref h0, .int (0 : Int32), .int lane, .int n] : List Value).toArray s 0 0 A) (F0 m 56 ls []) := by
              intro nf
              induction nf with
              | zero => intro j h1 h2; exact absurd h1 (by omega)
              | succ nf ih56 =>
                intro j hn13 hj14 g H locs hP hD hS ls hl
                refine lv_iload hx hb dX11_sheet_56 (lv_at hl 0 rfl) ?_
                refine lv_bipush (v := 40) hx hb dX11_sheet_58 (by decide) ?_
                refine lv_icmp_ge (tgt := 82) hx hb dX11_sheet_60 (by decide) (fun c15 => ?_) (fun c15 => ?_)
                · skip
                  have n16 : 40 ≤ j := by have t := leI c15; rw [nI_toInt (n := j) (by omega)] at t; have : (40 : Int32).toInt = 40 := (by decide); omega
                  refine lv_iconst (v := 1) hx hb dX11_sheet_82 (by decide) ?_
                  have hpost : (1 : Int32) = if (0 ≤ (0 : Int32).toInt ∧ (0 : Int32).toInt < 4) ∧ (0 ≤ lane.toInt ∧ lane.toInt ≤ 2) ∧ n.toInt ≤ 40 then (if n.toInt < 0 then -14 else 1) else -1 := by
                    have t_b10 := b10
                    have t_c11 := leI c11
                    have t_c12 := leI c12
                    have t_hj14 := hj14
                    have t_n16 := n16
                    have : (0 : Int32).toInt = 0 := (by decide)
                    have : (40 : Int32).toInt = 40 := (by decide)
                    have t_n0 : (nI j).toInt = (j : Int) := nI_toInt (by omega)
                    first | rfl | ((repeat' split) <;> first | rfl | omega)
                  refine W.widen (k := 0) (n := 0) (by omega) (by omega) ?_
                  exact W.iret (v := 1) hx hb hr (fun t ht hW => ⟨⟨1, (), rfl, ⟨hpost, trivial⟩, trivial⟩, hS.F ht⟩) hS.2.2 dX11_sheet_83
                · skip
                  have n17 : j < 40 := by have t := nleI c15; rw [nI_toInt (n := j) (by omega)] at t; have : (40 : Int32).toInt = 40 := (by decide); omega
                  refine lv_aload_n hx hb dX11_sheet_63 rfl (lv_at hl 1 rfl) ?_
                  refine va_get (D := (dC, dI)) (ci := 11) (v := .ref ce) (C := RX11) (T := TX11) (N := 35) hx hb hg inG11 hown hK.1 hP 0 rfl rfl 33 (by decide) (hg _ wt_911) (fun _ h9 => h9) rfl dX11_sheet_64 ?_
                  refine lv_bipush (v := 40) hx hb dX11_sheet_67 (by decide) ?_
                  refine lv_iload_n hx hb dX11_sheet_69 rfl (lv_at hl 2 rfl) ?_
                  refine lv_imul hx hb dX11_sheet_70 ?_
                  refine lv_cg (y := 0) (by decide) ?_
                  refine lv_iload hx hb dX11_sheet_71 (lv_at hl 0 rfl) ?_
                  refine lv_iadd hx hb dX11_sheet_73 ?_
                  refine lv_cg (y := nI j) (by rw [show (0 : Int32) = nI 0 from rfl, nI_add, Nat.zero_add]) ?_
                  refine lv_iconst (v := 0) hx hb dX11_sheet_74 (by decide) ?_
                  refine va_iast hx hb hK.1 hP hD hS 3 0 rfl rfl (vp_in_nI (by omega) (by decide)) dX11_sheet_75 (fun H locs hP hD hS => ?_)
                  rw [nI_clamp (by omega)] at hP hD
                  have hP : va_P (dC, dI) vwCl [(h0, .inr (11, [.ref st, .int 0, .int 0, .ref rp, .int 0, .int 0, .int 0, .int 0, .int 0, .int 0, .ref tp, .int 0, .int 0, .int 0, .int 0, .int 0, .int 0, .int 0, .int 0, .ref cu, .ref lt, .ref od, .ref th, .ref be, .ref ln, .int 0, .ref ma, .int 0, .ref ah, .ref bh, .ref ik, .ref la, .ref lg, .ref ce, .int 0])), (la, .inl (G 0, 4, .inl (upd (upd (upd (upd (upd (fun _ => 0) 0 (-4)) 1 (-4)) 2 (-4)) 3 (-4)) 0 lane))), (lg, .inl (G 0, 4, .inl (upd (fun _ => 0) 0 n))), (ce, .inl (G 0, 160, .inl (upd g j 0)))] H := hP
                  have hD : va_D A [(h0, .inr (11, [.ref st, .int 0, .int 0, .ref rp, .int 0, .int 0, .int 0, .int 0, .int 0, .int 0, .ref tp, .int 0, .int 0, .int 0, .int 0, .int 0, .int 0, .int 0, .int 0, .ref cu, .ref lt, .ref od, .ref th, .ref be, .ref ln, .int 0, .ref ma, .int 0, .ref ah, .ref bh, .ref ik, .ref la, .ref lg, .ref ce, .int 0])), (la, .inl (G 0, 4, .inl (upd (upd (upd (upd (upd (fun _ => 0) 0 (-4)) 1 (-4)) 2 (-4)) 3 (-4)) 0 lane))), (lg, .inl (G 0, 4, .inl (upd (fun _ => 0) 0 n))), (ce, .inl (G 0, 160, .inl (upd g j 0)))] := hD
                  refine lv_iinc (v := nI (j + 1)) (lv' := [(4, .int (nI (j + 1))), (0, .ref h0), (1, .int 0), (2, .int lane), (3, .int n)]) hx hb dX11_sheet_76 hl (k := 0) rfl (by rw [show Int32.ofInt 1 = nI 1 from by decide]; exact nI_add _ _) (by decide) rfl (fun ls hl => ?_)
                  refine lv_goto (tgt := 56) hx hb dX11_sheet_79 (by decide) ?_
                  exact ih56 ((j + 1)) (by omega) (by omega) (upd g j 0) _ _ hP hD hS ls (lv_sub hl [0, 1, 2, 3, 4] rfl)
            exact loop56 (40 + 1) 0 (by omega) (by omega) (fun _ => 0) _ _ hP hD hS ls (lv_sub hl [0, 1, 2, 3, 4] rfl)
          · skip
            refine lv_aload_n hx hb dX11_sheet_39 rfl (lv_at hl 0 rfl) ?_
            refine va_get (D := (dC, dI)) (ci := 11) (v := .ref la) (C := RX11) (T := TX11) (N := 35) hx hb hg inG11 hown hK.1 hP 0 rfl rfl 31 (by decide) (hg _ wt_909) (fun _ h9 => h9) rfl dX11_sheet_40 ?_
            refine lv_iload_n hx hb dX11_sheet_43 rfl (lv_at hl 1 rfl) ?_
            refine lv_iload_n hx hb dX11_sheet_44 rfl (lv_at hl 2 rfl) ?_
            refine va_iast hx hb hK.1 hP hD hS 1 0 rfl rfl (vp_in_iff.mpr ⟨by decide, by decide⟩) dX11_sheet_45 (fun H locs hP hD hS => ?_)
            have hP : va_P (dC, dI) vwCl [(h0, .inr (11, [.ref st, .int 0, .int 0, .ref rp, .int 0, .int 0, .int 0, .int 0, .int 0, .int 0, .ref tp, .int 0, .int 0, .int 0, .int 0, .int 0, .int 0, .int 0, .int 0, .ref cu, .ref lt, .ref od, .ref th, .ref be, .ref ln, .int 0, .ref ma, .int 0, .ref ah, .ref bh, .ref ik, .ref la, .ref lg, .ref ce, .int 0])), (la, .inl (G 0, 4, .inl (upd (upd (upd (upd (upd (fun _ => 0) 0 (-4)) 1 (-4)) 2 (-4)) 3 (-4)) 1 lane))), (lg, .inl (G 0, 4, .inl (fun _ => 0))), (ce, .inl (G 0, 160, .inl (fun _ => 0)))] H := hP
            have hD : va_D A [(h0, .inr (11, [.ref st, .int 0, .int 0, .ref rp, .int 0, .int 0, .int 0, .int 0, .int 0, .int 0, .ref tp, .int 0, .int 0, .int 0, .int 0, .int 0, .int 0, .int 0, .int 0, .ref cu, .ref lt, .ref od, .ref th, .ref be, .ref ln, .int 0, .ref ma, .int 0, .ref ah, .ref bh, .ref ik, .ref la, .ref lg, .ref ce, .int 0])), (la, .inl (G 0, 4, .inl (upd (upd (upd (upd (upd (fun _ => 0) 0 (-4)) 1 (-4)) 2 (-4)) 3 (-4)) 1 lane))), (lg, .inl (G 0, 4, .inl (fun _ => 0))), (ce, .inl (G 0, 160, .inl (fun _ => 0)))] := hD
            refine lv_aload_n hx hb dX11_sheet_46 rfl (lv_at hl 0 rfl) ?_
            refine va_get (D := (dC, dI)) (ci := 11) (v := .ref lg) (C := RX11) (T := TX11) (N := 35) hx hb hg inG11 hown hK.1 hP 0 rfl rfl 32 (by decide) (hg _ wt_910) (fun _ h9 => h9) rfl dX11_sheet_47 ?_
            refine lv_iload_n hx hb dX11_sheet_50 rfl (lv_at hl 1 rfl) ?_
            refine lv_iload_n hx hb dX11_sheet_51 rfl (lv_at hl 3 rfl) ?_
            refine va_iast hx hb hK.1 hP hD hS 2 0 rfl rfl (vp_in_iff.mpr ⟨by decide, by decide⟩) dX11_sheet_52 (fun H locs hP hD hS => ?_)
            have hP : va_P (dC, dI) vwCl [(h0, .inr (11, [.ref st, .int 0, .int 0, .ref rp, .int 0, .int 0, .int 0, .int 0, .int 0, .int 0, .ref tp, .int 0, .int 0, .int 0, .int 0, .int 0, .int 0, .int 0, .int 0, .ref cu, .ref lt, .ref od, .ref th, .ref be, .ref ln, .int 0, .ref ma, .int 0, .ref ah, .ref bh, .ref ik, .ref la, .ref lg, .ref ce, .int 0])), (la, .inl (G 0, 4, .inl (upd (upd (upd (upd (upd (fun _ => 0) 0 (-4)) 1 (-4)) 2 (-4)) 3 (-4)) 1 lane))), (lg, .inl (G 0, 4, .inl (upd (fun _ => 0) 1 n))), (ce, .inl (G 0, 160, .inl (fun _ => 0)))] H := hP
            have hD : va_D A [(h0, .inr (11, [.ref st, .int 0, .int 0, .ref rp, .int 0, .int 0, .int 0, .int 0, .int 0, .int 0, .ref tp, .int 0, .int 0, .int 0, .int 0, .int 0, .int 0, .int 0, .int 0, .ref cu, .ref lt, .ref od, .ref th, .ref be, .ref ln, .int 0, .ref ma, .int 0, .ref ah, .ref bh, .ref ik, .ref la, .ref lg, .ref ce, .int 0])), (la, .inl (G 0, 4, .inl (upd (upd (upd (upd (upd (fun _ => 0) 0 (-4)) 1 (-4)) 2 (-4)) 3 (-4)) 1 lane))), (lg, .inl (G 0, 4, .inl (upd (fun _ => 0) 1 n))), (ce, .inl (G 0, 160, .inl (fun _ => 0)))] := hD
            refine lv_iconst (v := 0) hx hb dX11_sheet_53 (by decide) ?_
            refine lv_istore (lv' := [(4, .int 0), (0, .ref h0), (1, .int 1), (2, .int lane), (3, .int n)]) hx hb dX11_sheet_54 hl (by decide) rfl (fun ls hl => ?_)
            have loop56 : ∀ (nf j : Nat), 40 + 1 ≤ j + nf → j ≤ 40 → ∀ (g : Nat → Int32) (H : Heap) (locs : List Loc), va_P (dC, dI) vwCl [(h0, .inr (11, [.ref st, .int 0, .int 0, .ref rp, .int 0, .int 0, .int 0, .int 0, .int 0, .int 0, .ref tp, .int 0, .int 0, .int 0, .int 0, .int 0, .int 0, .int 0, .int 0, .ref cu, .ref lt, .ref od, .ref th, .ref be, .ref ln, .int 0, .ref ma, .int 0, .ref ah, .ref bh, .ref ik, .ref la, .ref lg, .ref ce, .int 0])), (la, .inl (G 0, 4, .inl (upd (upd (upd (upd (upd (fun _ => 0) 0 (-4)) 1 (-4)) 2 (-4)) 3 (-4)) 1 lane))), (lg, .inl (G 0, 4, .inl (upd (fun _ => 0) 1 n))), (ce, .inl (G 0, 160, .inl g))] H → va_D A [(h0, .inr (11, [.ref st, .int 0, .int 0, .ref rp, .int 0, .int 0, .int 0, .int 0, .int 0, .int 0, .ref tp, .int 0, .int 0, .int 0, .int 0, .int 0, .int 0, .int 0, .int 0, .ref cu, .ref lt, .ref od, .ref th, .ref be, .ref ln, .int 0, .ref ma, .int 0, .ref ah, .ref bh, .ref ik, .ref la, .ref lg, .ref ce, .int 0])), (la, .inl (G 0, 4, .inl (upd (upd (upd (upd (upd (fun _ => 0) 0 (-4)) 1 (-4)) 2 (-4)) 3 (-4)) 1 lane))), (lg, .inl (G 0, 4, .inl (upd (fun _ => 0) 1 n))), (ce, .inl (G 0, 160, .inl g))] → va_S A s.heap H locs → ∀ (ls : Array Slot), lv_has ls 5 [(4, .int (nI j)), (0, .ref h0), (1, .int 1), (2, .int lane), (3, .int n)] → W p l e (headSpec (Cond.code yX11_sheet cX11_sheet 5 (some .int) :: GT) ({ frames := 1, cells := 0, slots := 0, locals := 25 } : Room)).room s m ([.ref h0, .int (1 : Int32), .int lane, .int n] : List Value).toArray below meth c H locs 0 0 (MQ below (va_Qi (fun (r : Int32) (u : Unit) => match u with | _ => (r = if (0 ≤ (1 : Int32).toInt ∧ (1 : Int32).toInt < 4) ∧ (0 ≤ lane.toInt ∧ lane.toInt ≤ 2) ∧ n.toInt ≤ 40 then (if n.toInt < 0 then -14 else 1) else -1) ∧ True) (fun _ _ => True) A) ([.ref h0, .int (1 : Int32), .int lane, .int n] : List Value).toArray s 0 0 A) (F0 m 56 ls []) := by
              intro nf
              induction nf with
              | zero => intro j h1 h2; exact absurd h1 (by omega)
              | succ nf ih56 =>
                intro j hn18 hj19 g H locs hP hD hS ls hl
                refine lv_iload hx hb dX11_sheet_56 (lv_at hl 0 rfl) ?_
                refine lv_bipush (v := 40) hx hb dX11_sheet_58 (by decide) ?_
                refine lv_icmp_ge (tgt := 82) hx hb dX11_sheet_60 (by decide) (fun c20 => ?_) (fun c20 => ?_)
                · skip
                  have n21 : 40 ≤ j := by have t := leI c20; rw [nI_toInt (n := j) (by omega)] at t; have : (40 : Int32).toInt = 40 := (by decide); omega
                  refine lv_iconst (v := 1) hx hb dX11_sheet_82 (by decide) ?_
                  have hpost : (1 : Int32) = if (0 ≤ (1 : Int32).toInt ∧ (1 : Int32).toInt < 4) ∧ (0 ≤ lane.toInt ∧ lane.toInt ≤ 2) ∧ n.toInt ≤ 40 then (if n.toInt < 0 then -14 else 1) else -1 := by
                    have t_b10 := b10
                    have t_c11 := leI c11
                    have t_c12 := leI c12
                    have t_hj19 := hj19
                    have t_n21 := n21
                    have : (0 : Int32).toInt = 0 := (by decide)
                    have : (40 : Int32).toInt = 40 := (by decide)
                    have t_n0 : (nI j).toInt = (j : Int) := nI_toInt (by omega)
                    first | rfl | ((repeat' split) <;> first | rfl | omega)
                  refine W.widen (k := 0) (n := 0) (by omega) (by omega) ?_
                  exact W.iret (v := 1) hx hb hr (fun t ht hW => ⟨⟨1, (), rfl, ⟨hpost, trivial⟩, trivial⟩, hS.F ht⟩) hS.2.2 dX11_sheet_83
                · skip
                  have n22 : j < 40 := by have t := nleI c20; rw [nI_toInt (n := j) (by omega)] at t; have : (40 : Int32).toInt = 40 := (by decide); omega
                  refine lv_aload_n hx hb dX11_sheet_63 rfl (lv_at hl 1 rfl) ?_
                  refine va_get (D := (dC, dI)) (ci := 11) (v := .ref ce) (C := RX11) (T := TX11) (N := 35) hx hb hg inG11 hown hK.1 hP 0 rfl rfl 33 (by decide) (hg _ wt_911) (fun _ h9 => h9) rfl dX11_sheet_64 ?_
                  refine lv_bipush (v := 40) hx hb dX11_sheet_67 (by decide) ?_
                  refine lv_iload_n hx hb dX11_sheet_69 rfl (lv_at hl 2 rfl) ?_
                  refine lv_imul hx hb dX11_sheet_70 ?_
                  refine lv_cg (y := 40) (by decide) ?_
                  refine lv_iload hx hb dX11_sheet_71 (lv_at hl 0 rfl) ?_
                  refine lv_iadd hx hb dX11_sheet_73 ?_
                  refine lv_cg (y := nI (40 + j)) (by rw [show (40 : Int32) = nI 40 from rfl]; exact nI_add _ _) ?_
                  refine lv_iconst (v := 0) hx hb dX11_sheet_74 (by decide) ?_
                  refine va_iast hx hb hK.1 hP hD hS 3 0 rfl rfl (vp_in_nI (by omega) (by decide)) dX11_sheet_75 (fun H locs hP hD hS => ?_)
                  rw [nI_clamp (by omega)] at hP hD
                  have hP : va_P (dC, dI) vwCl [(h0, .inr (11, [.ref st, .int 0, .int 0, .ref rp, .int 0, .int 0, .int 0, .int 0, .int 0, .int 0, .ref tp, .int 0, .int 0, .int 0, .int 0, .int 0, .int 0, .int 0, .int 0, .ref cu, .ref lt, .ref od, .ref th, .ref be, .ref ln, .int 0, .ref ma, .int 0, .ref ah, .ref bh, .ref ik, .ref la, .ref lg, .ref ce, .int 0])), (la, .inl (G 0, 4, .inl (upd (upd (upd (upd (upd (fun _ => 0) 0 (-4)) 1 (-4)) 2 (-4)) 3 (-4)) 1 lane))), (lg, .inl (G 0, 4, .inl (upd (fun _ => 0) 1 n))), (ce, .inl (G 0, 160, .inl (upd g (40 + j) 0)))] H := hP
                  have hD : va_D A [(h0, .inr (11, [.ref st, .int 0, .int 0, .ref rp, .int 0, .int 0, .int 0, .int 0, .int 0, .int 0, .ref tp, .int 0, .int 0, .int 0, .int 0, .int 0, .int 0, .int 0, .int 0, .ref cu, .ref lt, .ref od, .ref th, .ref be, .ref ln, .int 0, .ref ma, .int 0, .ref ah, .ref bh, .ref ik, .ref la, .ref lg, .ref ce, .int 0])), (la, .inl (G 0, 4, .inl (upd (upd (upd (upd (upd (fun _ => 0) 0 (-4)) 1 (-4)) 2 (-4)) 3 (-4)) 1 lane))), (lg, .inl (G 0, 4, .inl (upd (fun _ => 0) 1 n))), (ce, .inl (G 0, 160, .inl (upd g (40 + j) 0)))] := hD
                  refine lv_iinc (v := nI (j + 1)) (lv' := [(4, .int (nI (j + 1))), (0, .ref h0), (1, .int 1), (2, .int lane), (3, .int n)]) hx hb dX11_sheet_76 hl (k := 0) rfl (by rw [show Int32.ofInt 1 = nI 1 from by decide]; exact nI_add _ _) (by decide) rfl (fun ls hl => ?_)
                  refine lv_goto (tgt := 56) hx hb dX11_sheet_79 (by decide) ?_
                  exact ih56 ((j + 1)) (by omega) (by omega) (upd g (40 + j) 0) _ _ hP hD hS ls (lv_sub hl [0, 1, 2, 3, 4] rfl)
            exact loop56 (40 + 1) 0 (by omega) (by omega) (fun _ => 0) _ _ hP hD hS ls (lv_sub hl [0, 1, 2, 3, 4] rfl)
          · skip
            refine lv_aload_n hx hb dX11_sheet_39 rfl (lv_at hl 0 rfl) ?_
            refine va_get (D := (dC, dI)) (ci := 11) (v := .ref la) (C := RX11) (T := TX11) (N := 35) hx hb hg inG11 hown hK.1 hP 0 rfl rfl 31 (by decide) (hg _ wt_909) (fun _ h9 => h9) rfl dX11_sheet_40 ?_
            refine lv_iload_n hx hb dX11_sheet_43 rfl (lv_at hl 1 rfl) ?_
            refine lv_iload_n hx hb dX11_sheet_44 rfl (lv_at hl 2 rfl) ?_
            refine va_iast hx hb hK.1 hP hD hS 1 0 rfl rfl (vp_in_iff.mpr ⟨by decide, by decide⟩) dX11_sheet_45 (fun H locs hP hD hS => ?_)
            have hP : va_P (dC, dI) vwCl [(h0, .inr (11, [.ref st, .int 0, .int 0, .ref rp, .int 0, .int 0, .int 0, .int 0, .int 0, .int 0, .ref tp, .int 0, .int 0, .int 0, .int 0, .int 0, .int 0, .int 0, .int 0, .ref cu, .ref lt, .ref od, .ref th, .ref be, .ref ln, .int 0, .ref ma, .int 0, .ref ah, .ref bh, .ref ik, .ref la, .ref lg, .ref ce, .int 0])), (la, .inl (G 0, 4, .inl (upd (upd (upd (upd (upd (fun _ => 0) 0 (-4)) 1 (-4)) 2 (-4)) 3 (-4)) 2 lane))), (lg, .inl (G 0, 4, .inl (fun _ => 0))), (ce, .inl (G 0, 160, .inl (fun _ => 0)))] H := hP
            have hD : va_D A [(h0, .inr (11, [.ref st, .int 0, .int 0, .ref rp, .int 0, .int 0, .int 0, .int 0, .int 0, .int 0, .ref tp, .int 0, .int 0, .int 0, .int 0, .int 0, .int 0, .int 0, .int 0, .ref cu, .ref lt, .ref od, .ref th, .ref be, .ref ln, .int 0, .ref ma, .int 0, .ref ah, .ref bh, .ref ik, .ref la, .ref lg, .ref ce, .int 0])), (la, .inl (G 0, 4, .inl (upd (upd (upd (upd (upd (fun _ => 0) 0 (-4)) 1 (-4)) 2 (-4)) 3 (-4)) 2 lane))), (lg, .inl (G 0, 4, .inl (fun _ => 0))), (ce, .inl (G 0, 160, .inl (fun _ => 0)))] := hD
            refine lv_aload_n hx hb dX11_sheet_46 rfl (lv_at hl 0 rfl) ?_
            refine va_get (D := (dC, dI)) (ci := 11) (v := .ref lg) (C := RX11) (T := TX11) (N := 35) hx hb hg inG11 hown hK.1 hP 0 rfl rfl 32 (by decide) (hg _ wt_910) (fun _ h9 => h9) rfl dX11_sheet_47 ?_
            refine lv_iload_n hx hb dX11_sheet_50 rfl (lv_at hl 1 rfl) ?_
            refine lv_iload_n hx hb dX11_sheet_51 rfl (lv_at hl 3 rfl) ?_
            refine va_iast hx hb hK.1 hP hD hS 2 0 rfl rfl (vp_in_iff.mpr ⟨by decide, by decide⟩) dX11_sheet_52 (fun H locs hP hD hS => ?_)
            have hP : va_P (dC, dI) vwCl [(h0, .inr (11, [.ref st, .int 0, .int 0, .ref rp, .int 0, .int 0, .int 0, .int 0, .int 0, .int 0, .ref tp, .int 0, .int 0, .int 0, .int 0, .int 0, .int 0, .int 0, .int 0, .ref cu, .ref lt, .ref od, .ref th, .ref be, .ref ln, .int 0, .ref ma, .int 0, .ref ah, .ref bh, .ref ik, .ref la, .ref lg, .ref ce, .int 0])), (la, .inl (G 0, 4, .inl (upd (upd (upd (upd (upd (fun _ => 0) 0 (-4)) 1 (-4)) 2 (-4)) 3 (-4)) 2 lane))), (lg, .inl (G 0, 4, .inl (upd (fun _ => 0) 2 n))), (ce, .inl (G 0, 160, .inl (fun _ => 0)))] H := hP
            have hD : va_D A [(h0, .inr (11, [.ref st, .int 0, .int 0, .ref rp, .int 0, .int 0, .int 0, .int 0, .int 0, .int 0, .ref tp, .int 0, .int 0, .int 0, .int 0, .int 0, .int 0, .int 0, .int 0, .ref cu, .ref lt, .ref od, .ref th, .ref be, .ref ln, .int 0, .ref ma, .int 0, .ref ah, .ref bh, .ref ik, .ref la, .ref lg, .ref ce, .int 0])), (la, .inl (G 0, 4, .inl (upd (upd (upd (upd (upd (fun _ => 0) 0 (-4)) 1 (-4)) 2 (-4)) 3 (-4)) 2 lane))), (lg, .inl (G 0, 4, .inl (upd (fun _ => 0) 2 n))), (ce, .inl (G 0, 160, .inl (fun _ => 0)))] := hD
            refine lv_iconst (v := 0) hx hb dX11_sheet_53 (by decide) ?_
            refine lv_istore (lv' := [(4, .int 0), (0, .ref h0), (1, .int 2), (2, .int lane), (3, .int n)]) hx hb dX11_sheet_54 hl (by decide) rfl (fun ls hl => ?_)
            have loop56 : ∀ (nf j : Nat), 40 + 1 ≤ j + nf → j ≤ 40 → ∀ (g : Nat → Int32) (H : Heap) (locs : List Loc), va_P (dC, dI) vwCl [(h0, .inr (11, [.ref st, .int 0, .int 0, .ref rp, .int 0, .int 0, .int 0, .int 0, .int 0, .int 0, .ref tp, .int 0, .int 0, .int 0, .int 0, .int 0, .int 0, .int 0, .int 0, .ref cu, .ref lt, .ref od, .ref th, .ref be, .ref ln, .int 0, .ref ma, .int 0, .ref ah, .ref bh, .ref ik, .ref la, .ref lg, .ref ce, .int 0])), (la, .inl (G 0, 4, .inl (upd (upd (upd (upd (upd (fun _ => 0) 0 (-4)) 1 (-4)) 2 (-4)) 3 (-4)) 2 lane))), (lg, .inl (G 0, 4, .inl (upd (fun _ => 0) 2 n))), (ce, .inl (G 0, 160, .inl g))] H → va_D A [(h0, .inr (11, [.ref st, .int 0, .int 0, .ref rp, .int 0, .int 0, .int 0, .int 0, .int 0, .int 0, .ref tp, .int 0, .int 0, .int 0, .int 0, .int 0, .int 0, .int 0, .int 0, .ref cu, .ref lt, .ref od, .ref th, .ref be, .ref ln, .int 0, .ref ma, .int 0, .ref ah, .ref bh, .ref ik, .ref la, .ref lg, .ref ce, .int 0])), (la, .inl (G 0, 4, .inl (upd (upd (upd (upd (upd (fun _ => 0) 0 (-4)) 1 (-4)) 2 (-4)) 3 (-4)) 2 lane))), (lg, .inl (G 0, 4, .inl (upd (fun _ => 0) 2 n))), (ce, .inl (G 0, 160, .inl g))] → va_S A s.heap H locs → ∀ (ls : Array Slot), lv_has ls 5 [(4, .int (nI j)), (0, .ref h0), (1, .int 2), (2, .int lane), (3, .int n)] → W p l e (headSpec (Cond.code yX11_sheet cX11_sheet 5 (some .int) :: GT) ({ frames := 1, cells := 0, slots := 0, locals := 25 } : Room)).room s m ([.ref h0, .int (2 : Int32), .int lane, .int n] : List Value).toArray below meth c H locs 0 0 (MQ below (va_Qi (fun (r : Int32) (u : Unit) => match u with | _ => (r = if (0 ≤ (2 : Int32).toInt ∧ (2 : Int32).toInt < 4) ∧ (0 ≤ lane.toInt ∧ lane.toInt ≤ 2) ∧ n.toInt ≤ 40 then (if n.toInt < 0 then -14 else 1) else -1) ∧ True) (fun _ _ => True) A) ([.ref h0, .int (2 : Int32), .int lane, .int n] : List Value).toArray s 0 0 A) (F0 m 56 ls []) := by
              intro nf
              induction nf with
              | zero => intro j h1 h2; exact absurd h1 (by omega)
              | succ nf ih56 =>
                intro j hn23 hj24 g H locs hP hD hS ls hl
                refine lv_iload hx hb dX11_sheet_56 (lv_at hl 0 rfl) ?_
                refine lv_bipush (v := 40) hx hb dX11_sheet_58 (by decide) ?_
                refine lv_icmp_ge (tgt := 82) hx hb dX11_sheet_60 (by decide) (fun c25 => ?_) (fun c25 => ?_)
                · skip
                  have n26 : 40 ≤ j := by have t := leI c25; rw [nI_toInt (n := j) (by omega)] at t; have : (40 : Int32).toInt = 40 := (by decide); omega
                  refine lv_iconst (v := 1) hx hb dX11_sheet_82 (by decide) ?_
                  have hpost : (1 : Int32) = if (0 ≤ (2 : Int32).toInt ∧ (2 : Int32).toInt < 4) ∧ (0 ≤ lane.toInt ∧ lane.toInt ≤ 2) ∧ n.toInt ≤ 40 then (if n.toInt < 0 then -14 else 1) else -1 := by
                    have t_b10 := b10
                    have t_c11 := leI c11
                    have t_c12 := leI c12
                    have t_hj24 := hj24
                    have t_n26 := n26
                    have : (0 : Int32).toInt = 0 := (by decide)
                    have : (40 : Int32).toInt = 40 := (by decide)
                    have t_n0 : (nI j).toInt = (j : Int) := nI_toInt (by omega)
                    first | rfl | ((repeat' split) <;> first | rfl | omega)
                  refine W.widen (k := 0) (n := 0) (by omega) (by omega) ?_
                  exact W.iret (v := 1) hx hb hr (fun t ht hW => ⟨⟨1, (), rfl, ⟨hpost, trivial⟩, trivial⟩, hS.F ht⟩) hS.2.2 dX11_sheet_83
                · skip
                  have n27 : j < 40 := by have t := nleI c25; rw [nI_toInt (n := j) (by omega)] at t; have : (40 : Int32).toInt = 40 := (by decide); omega
                  refine lv_aload_n hx hb dX11_sheet_63 rfl (lv_at hl 1 rfl) ?_
                  refine va_get (D := (dC, dI)) (ci := 11) (v := .ref ce) (C := RX11) (T := TX11) (N := 35) hx hb hg inG11 hown hK.1 hP 0 rfl rfl 33 (by decide) (hg _ wt_911) (fun _ h9 => h9) rfl dX11_sheet_64 ?_
                  refine lv_bipush (v := 40) hx hb dX11_sheet_67 (by decide) ?_
                  refine lv_iload_n hx hb dX11_sheet_69 rfl (lv_at hl 2 rfl) ?_
                  refine lv_imul hx hb dX11_sheet_70 ?_
                  refine lv_cg (y := 80) (by decide) ?_
                  refine lv_iload hx hb dX11_sheet_71 (lv_at hl 0 rfl) ?_
                  refine lv_iadd hx hb dX11_sheet_73 ?_
                  refine lv_cg (y := nI (80 + j)) (by rw [show (80 : Int32) = nI 80 from rfl]; exact nI_add _ _) ?_
                  refine lv_iconst (v := 0) hx hb dX11_sheet_74 (by decide) ?_
                  refine va_iast hx hb hK.1 hP hD hS 3 0 rfl rfl (vp_in_nI (by omega) (by decide)) dX11_sheet_75 (fun H locs hP hD hS => ?_)
                  rw [nI_clamp (by omega)] at hP hD
                  have hP : va_P (dC, dI) vwCl [(h0, .inr (11, [.ref st, .int 0, .int 0, .ref rp, .int 0, .int 0, .int 0, .int 0, .int 0, .int 0, .ref tp, .int 0, .int 0, .int 0, .int 0, .int 0, .int 0, .int 0, .int 0, .ref cu, .ref lt, .ref od, .ref th, .ref be, .ref ln, .int 0, .ref ma, .int 0, .ref ah, .ref bh, .ref ik, .ref la, .ref lg, .ref ce, .int 0])), (la, .inl (G 0, 4, .inl (upd (upd (upd (upd (upd (fun _ => 0) 0 (-4)) 1 (-4)) 2 (-4)) 3 (-4)) 2 lane))), (lg, .inl (G 0, 4, .inl (upd (fun _ => 0) 2 n))), (ce, .inl (G 0, 160, .inl (upd g (80 + j) 0)))] H := hP
                  have hD : va_D A [(h0, .inr (11, [.ref st, .int 0, .int 0, .ref rp, .int 0, .int 0, .int 0, .int 0, .int 0, .int 0, .ref tp, .int 0, .int 0, .int 0, .int 0, .int 0, .int 0, .int 0, .int 0, .ref cu, .ref lt, .ref od, .ref th, .ref be, .ref ln, .int 0, .ref ma, .int 0, .ref ah, .ref bh, .ref ik, .ref la, .ref lg, .ref ce, .int 0])), (la, .inl (G 0, 4, .inl (upd (upd (upd (upd (upd (fun _ => 0) 0 (-4)) 1 (-4)) 2 (-4)) 3 (-4)) 2 lane))), (lg, .inl (G 0, 4, .inl (upd (fun _ => 0) 2 n))), (ce, .inl (G 0, 160, .inl (upd g (80 + j) 0)))] := hD
                  refine lv_iinc (v := nI (j + 1)) (lv' := [(4, .int (nI (j + 1))), (0, .ref h0), (1, .int 2), (2, .int lane), (3, .int n)]) hx hb dX11_sheet_76 hl (k := 0) rfl (by rw [show Int32.ofInt 1 = nI 1 from by decide]; exact nI_add _ _) (by decide) rfl (fun ls hl => ?_)
                  refine lv_goto (tgt := 56) hx hb dX11_sheet_79 (by decide) ?_
                  exact ih56 ((j + 1)) (by omega) (by omega) (upd g (80 + j) 0) _ _ hP hD hS ls (lv_sub hl [0, 1, 2, 3, 4] rfl)
            exact loop56 (40 + 1) 0 (by omega) (by omega) (fun _ => 0) _ _ hP hD hS ls (lv_sub hl [0, 1, 2, 3, 4] rfl)
          · skip
            refine lv_aload_n hx hb dX11_sheet_39 rfl (lv_at hl 0 rfl) ?_
            refine va_get (D := (dC, dI)) (ci := 11) (v := .ref la) (C := RX11) (T := TX11) (N := 35) hx hb hg inG11 hown hK.1 hP 0 rfl rfl 31 (by decide) (hg _ wt_909) (fun _ h9 => h9) rfl dX11_sheet_40 ?_
            refine lv_iload_n hx hb dX11_sheet_43 rfl (lv_at hl 1 rfl) ?_
            refine lv_iload_n hx hb dX11_sheet_44 rfl (lv_at hl 2 rfl) ?_
            refine va_iast hx hb hK.1 hP hD hS 1 0 rfl rfl (vp_in_iff.mpr ⟨by decide, by decide⟩) dX11_sheet_45 (fun H locs hP hD hS => ?_)
            have hP : va_P (dC, dI) vwCl [(h0, .inr (11, [.ref st, .int 0, .int 0, .ref rp, .int 0, .int 0, .int 0, .int 0, .int 0, .int 0, .ref tp, .int 0, .int 0, .int 0, .int 0, .int 0, .int 0, .int 0, .int 0, .ref cu, .ref lt, .ref od, .ref th, .ref be, .ref ln, .int 0, .ref ma, .int 0, .ref ah, .ref bh, .ref ik, .ref la, .ref lg, .ref ce, .int 0])), (la, .inl (G 0, 4, .inl (upd (upd (upd (upd (upd (fun _ => 0) 0 (-4)) 1 (-4)) 2 (-4)) 3 (-4)) 3 lane))), (lg, .inl (G 0, 4, .inl (fun _ => 0))), (ce, .inl (G 0, 160, .inl (fun _ => 0)))] H := hP
            have hD : va_D A [(h0, .inr (11, [.ref st, .int 0, .int 0, .ref rp, .int 0, .int 0, .int 0, .int 0, .int 0, .int 0, .ref tp, .int 0, .int 0, .int 0, .int 0, .int 0, .int 0, .int 0, .int 0, .ref cu, .ref lt, .ref od, .ref th, .ref be, .ref ln, .int 0, .ref ma, .int 0, .ref ah, .ref bh, .ref ik, .ref la, .ref lg, .ref ce, .int 0])), (la, .inl (G 0, 4, .inl (upd (upd (upd (upd (upd (fun _ => 0) 0 (-4)) 1 (-4)) 2 (-4)) 3 (-4)) 3 lane))), (lg, .inl (G 0, 4, .inl (fun _ => 0))), (ce, .inl (G 0, 160, .inl (fun _ => 0)))] := hD
            refine lv_aload_n hx hb dX11_sheet_46 rfl (lv_at hl 0 rfl) ?_
            refine va_get (D := (dC, dI)) (ci := 11) (v := .ref lg) (C := RX11) (T := TX11) (N := 35) hx hb hg inG11 hown hK.1 hP 0 rfl rfl 32 (by decide) (hg _ wt_910) (fun _ h9 => h9) rfl dX11_sheet_47 ?_
            refine lv_iload_n hx hb dX11_sheet_50 rfl (lv_at hl 1 rfl) ?_
            refine lv_iload_n hx hb dX11_sheet_51 rfl (lv_at hl 3 rfl) ?_
            refine va_iast hx hb hK.1 hP hD hS 2 0 rfl rfl (vp_in_iff.mpr ⟨by decide, by decide⟩) dX11_sheet_52 (fun H locs hP hD hS => ?_)
            have hP : va_P (dC, dI) vwCl [(h0, .inr (11, [.ref st, .int 0, .int 0, .ref rp, .int 0, .int 0, .int 0, .int 0, .int 0, .int 0, .ref tp, .int 0, .int 0, .int 0, .int 0, .int 0, .int 0, .int 0, .int 0, .ref cu, .ref lt, .ref od, .ref th, .ref be, .ref ln, .int 0, .ref ma, .int 0, .ref ah, .ref bh, .ref ik, .ref la, .ref lg, .ref ce, .int 0])), (la, .inl (G 0, 4, .inl (upd (upd (upd (upd (upd (fun _ => 0) 0 (-4)) 1 (-4)) 2 (-4)) 3 (-4)) 3 lane))), (lg, .inl (G 0, 4, .inl (upd (fun _ => 0) 3 n))), (ce, .inl (G 0, 160, .inl (fun _ => 0)))] H := hP
            have hD : va_D A [(h0, .inr (11, [.ref st, .int 0, .int 0, .ref rp, .int 0, .int 0, .int 0, .int 0, .int 0, .int 0, .ref tp, .int 0, .int 0, .int 0, .int 0, .int 0, .int 0, .int 0, .int 0, .ref cu, .ref lt, .ref od, .ref th, .ref be, .ref ln, .int 0, .ref ma, .int 0, .ref ah, .ref bh, .ref ik, .ref la, .ref lg, .ref ce, .int 0])), (la, .inl (G 0, 4, .inl (upd (upd (upd (upd (upd (fun _ => 0) 0 (-4)) 1 (-4)) 2 (-4)) 3 (-4)) 3 lane))), (lg, .inl (G 0, 4, .inl (upd (fun _ => 0) 3 n))), (ce, .inl (G 0, 160, .inl (fun _ => 0)))] := hD
            refine lv_iconst (v := 0) hx hb dX11_sheet_53 (by decide) ?_
            refine lv_istore (lv' := [(4, .int 0), (0, .ref h0), (1, .int 3), (2, .int lane), (3, .int n)]) hx hb dX11_sheet_54 hl (by decide) rfl (fun ls hl => ?_)
            have loop56 : ∀ (nf j : Nat), 40 + 1 ≤ j + nf → j ≤ 40 → ∀ (g : Nat → Int32) (H : Heap) (locs : List Loc), va_P (dC, dI) vwCl [(h0, .inr (11, [.ref st, .int 0, .int 0, .ref rp, .int 0, .int 0, .int 0, .int 0, .int 0, .int 0, .ref tp, .int 0, .int 0, .int 0, .int 0, .int 0, .int 0, .int 0, .int 0, .ref cu, .ref lt, .ref od, .ref th, .ref be, .ref ln, .int 0, .ref ma, .int 0, .ref ah, .ref bh, .ref ik, .ref la, .ref lg, .ref ce, .int 0])), (la, .inl (G 0, 4, .inl (upd (upd (upd (upd (upd (fun _ => 0) 0 (-4)) 1 (-4)) 2 (-4)) 3 (-4)) 3 lane))), (lg, .inl (G 0, 4, .inl (upd (fun _ => 0) 3 n))), (ce, .inl (G 0, 160, .inl g))] H → va_D A [(h0, .inr (11, [.ref st, .int 0, .int 0, .ref rp, .int 0, .int 0, .int 0, .int 0, .int 0, .int 0, .ref tp, .int 0, .int 0, .int 0, .int 0, .int 0, .int 0, .int 0, .int 0, .ref cu, .ref lt, .ref od, .ref th, .ref be, .ref ln, .int 0, .ref ma, .int 0, .ref ah, .ref bh, .ref ik, .ref la, .ref lg, .ref ce, .int 0])), (la, .inl (G 0, 4, .inl (upd (upd (upd (upd (upd (fun _ => 0) 0 (-4)) 1 (-4)) 2 (-4)) 3 (-4)) 3 lane))), (lg, .inl (G 0, 4, .inl (upd (fun _ => 0) 3 n))), (ce, .inl (G 0, 160, .inl g))] → va_S A s.heap H locs → ∀ (ls : Array Slot), lv_has ls 5 [(4, .int (nI j)), (0, .ref h0), (1, .int 3), (2, .int lane), (3, .int n)] → W p l e (headSpec (Cond.code yX11_sheet cX11_sheet 5 (some .int) :: GT) ({ frames := 1, cells := 0, slots := 0, locals := 25 } : Room)).room s m ([.ref h0, .int (3 : Int32), .int lane, .int n] : List Value).toArray below meth c H locs 0 0 (MQ below (va_Qi (fun (r : Int32) (u : Unit) => match u with | _ => (r = if (0 ≤ (3 : Int32).toInt ∧ (3 : Int32).toInt < 4) ∧ (0 ≤ lane.toInt ∧ lane.toInt ≤ 2) ∧ n.toInt ≤ 40 then (if n.toInt < 0 then -14 else 1) else -1) ∧ True) (fun _ _ => True) A) ([.ref h0, .int (3 : Int32), .int lane, .int n] : List Value).toArray s 0 0 A) (F0 m 56 ls []) := by
              intro nf
              induction nf with
              | zero => intro j h1 h2; exact absurd h1 (by omega)
              | succ nf ih56 =>
                intro j hn28 hj29 g H locs hP hD hS ls hl
                refine lv_iload hx hb dX11_sheet_56 (lv_at hl 0 rfl) ?_
                refine lv_bipush (v := 40) hx hb dX11_sheet_58 (by decide) ?_
                refine lv_icmp_ge (tgt := 82) hx hb dX11_sheet_60 (by decide) (fun c30 => ?_) (fun c30 => ?_)
                · skip
                  have n31 : 40 ≤ j := by have t := leI c30; rw [nI_toInt (n := j) (by omega)] at t; have : (40 : Int32).toInt = 40 := (by decide); omega
                  refine lv_iconst (v := 1) hx hb dX11_sheet_82 (by decide) ?_
                  have hpost : (1 : Int32) = if (0 ≤ (3 : Int32).toInt ∧ (3 : Int32).toInt < 4) ∧ (0 ≤ lane.toInt ∧ lane.toInt ≤ 2) ∧ n.toInt ≤ 40 then (if n.toInt < 0 then -14 else 1) else -1 := by
                    have t_b10 := b10
                    have t_c11 := leI c11
                    have t_c12 := leI c12
                    have t_hj29 := hj29
                    have t_n31 := n31
                    have : (0 : Int32).toInt = 0 := (by decide)
                    have : (40 : Int32).toInt = 40 := (by decide)
                    have t_n0 : (nI j).toInt = (j : Int) := nI_toInt (by omega)
                    first | rfl | ((repeat' split) <;> first | rfl | omega)
                  refine W.widen (k := 0) (n := 0) (by omega) (by omega) ?_
                  exact W.iret (v := 1) hx hb hr (fun t ht hW => ⟨⟨1, (), rfl, ⟨hpost, trivial⟩, trivial⟩, hS.F ht⟩) hS.2.2 dX11_sheet_83
                · skip
                  have n32 : j < 40 := by have t := nleI c30; rw [nI_toInt (n := j) (by omega)] at t; have : (40 : Int32).toInt = 40 := (by decide); omega
                  refine lv_aload_n hx hb dX11_sheet_63 rfl (lv_at hl 1 rfl) ?_
                  refine va_get (D := (dC, dI)) (ci := 11) (v := .ref ce) (C := RX11) (T := TX11) (N := 35) hx hb hg inG11 hown hK.1 hP 0 rfl rfl 33 (by decide) (hg _ wt_911) (fun _ h9 => h9) rfl dX11_sheet_64 ?_
                  refine lv_bipush (v := 40) hx hb dX11_sheet_67 (by decide) ?_
                  refine lv_iload_n hx hb dX11_sheet_69 rfl (lv_at hl 2 rfl) ?_
                  refine lv_imul hx hb dX11_sheet_70 ?_
                  refine lv_cg (y := 120) (by decide) ?_
                  refine lv_iload hx hb dX11_sheet_71 (lv_at hl 0 rfl) ?_
                  refine lv_iadd hx hb dX11_sheet_73 ?_
                  refine lv_cg (y := nI (120 + j)) (by rw [show (120 : Int32) = nI 120 from rfl]; exact nI_add _ _) ?_
                  refine lv_iconst (v := 0) hx hb dX11_sheet_74 (by decide) ?_
                  refine va_iast hx hb hK.1 hP hD hS 3 0 rfl rfl (vp_in_nI (by omega) (by decide)) dX11_sheet_75 (fun H locs hP hD hS => ?_)
                  rw [nI_clamp (by omega)] at hP hD
                  have hP : va_P (dC, dI) vwCl [(h0, .inr (11, [.ref st, .int 0, .int 0, .ref rp, .int 0, .int 0, .int 0, .int 0, .int 0, .int 0, .ref tp, .int 0, .int 0, .int 0, .int 0, .int 0, .int 0, .int 0, .int 0, .ref cu, .ref lt, .ref od, .ref th, .ref be, .ref ln, .int 0, .ref ma, .int 0, .ref ah, .ref bh, .ref ik, .ref la, .ref lg, .ref ce, .int 0])), (la, .inl (G 0, 4, .inl (upd (upd (upd (upd (upd (fun _ => 0) 0 (-4)) 1 (-4)) 2 (-4)) 3 (-4)) 3 lane))), (lg, .inl (G 0, 4, .inl (upd (fun _ => 0) 3 n))), (ce, .inl (G 0, 160, .inl (upd g (120 + j) 0)))] H := hP
                  have hD : va_D A [(h0, .inr (11, [.ref st, .int 0, .int 0, .ref rp, .int 0, .int 0, .int 0, .int 0, .int 0, .int 0, .ref tp, .int 0, .int 0, .int 0, .int 0, .int 0, .int 0, .int 0, .int 0, .ref cu, .ref lt, .ref od, .ref th, .ref be, .ref ln, .int 0, .ref ma, .int 0, .ref ah, .ref bh, .ref ik, .ref la, .ref lg, .ref ce, .int 0])), (la, .inl (G 0, 4, .inl (upd (upd (upd (upd (upd (fun _ => 0) 0 (-4)) 1 (-4)) 2 (-4)) 3 (-4)) 3 lane))), (lg, .inl (G 0, 4, .inl (upd (fun _ => 0) 3 n))), (ce, .inl (G 0, 160, .inl (upd g (120 + j) 0)))] := hD
                  refine lv_iinc (v := nI (j + 1)) (lv' := [(4, .int (nI (j + 1))), (0, .ref h0), (1, .int 3), (2, .int lane), (3, .int n)]) hx hb dX11_sheet_76 hl (k := 0) rfl (by rw [show Int32.ofInt 1 = nI 1 from by decide]; exact nI_add _ _) (by decide) rfl (fun ls hl => ?_)
                  refine lv_goto (tgt := 56) hx hb dX11_sheet_79 (by decide) ?_
                  exact ih56 ((j + 1)) (by omega) (by omega) (upd g (120 + j) 0) _ _ hP hD hS ls (lv_sub hl [0, 1, 2, 3, 4] rfl)
            exact loop56 (40 + 1) 0 (by omega) (by omega) (fun _ => 0) _ _ hP hD hS ls (lv_sub hl [0, 1, 2, 3, 4] rfl)
        · skip
          refine lv_bipush (v := (-14)) hx hb dX11_sheet_36 (by decide) ?_
          have hpost : ((-14) : Int32) = if (0 ≤ k.toInt ∧ k.toInt < 4) ∧ (0 ≤ lane.toInt ∧ lane.toInt ≤ 2) ∧ n.toInt ≤ 40 then (if n.toInt < 0 then -14 else 1) else -1 := by
            have t_b5 := b5
            have t_b10 := b10
            have t_c11 := leI c11
            have t_c12 := nleI c12
            have : (0 : Int32).toInt = 0 := (by decide)
            have : (40 : Int32).toInt = 40 := (by decide)
            first | rfl | ((repeat' split) <;> first | rfl | omega)
          refine W.widen (k := 0) (n := 0) (by omega) (by omega) ?_
          exact W.iret (v := (-14)) hx hb hr (fun t ht hW => ⟨⟨(-14), (), rfl, ⟨hpost, trivial⟩, trivial⟩, hS.F ht⟩) hS.2.2 dX11_sheet_38
      · skip
        refine lv_iconst (v := (-1)) hx hb dX11_sheet_30 (by decide) ?_
        have hpost : ((-1) : Int32) = if (0 ≤ k.toInt ∧ k.toInt < 4) ∧ (0 ≤ lane.toInt ∧ lane.toInt ≤ 2) ∧ n.toInt ≤ 40 then (if n.toInt < 0 then -14 else 1) else -1 := by
          have t_b5 := b5
          have t_b10 := b10
          have t_c11 := nleI c11
          have : (40 : Int32).toInt = 40 := (by decide)
          first | rfl | ((repeat' split) <;> first | rfl | omega)
        refine W.widen (k := 0) (n := 0) (by omega) (by omega) ?_
        exact W.iret (v := (-1)) hx hb hr (fun t ht hW => ⟨⟨(-1), (), rfl, ⟨hpost, trivial⟩, trivial⟩, hS.F ht⟩) hS.2.2 dX11_sheet_31

set_option maxHeartbeats 4000000 in
set_option maxRecDepth 100000 in
theorem c_X11_lay (l : Launch) (dC : Nat → ClassId) (dI : Nat → Nat → Nat) (G : Nat → ClassId) (sz : Nat) (h0 st rp tp cu lt od th be ln ma ah bh ik la lg ce : Nat) (k i v : Int32)    : Met l yX11_lay (Cond.code yX11_lay cX11_lay 4 (some .int) :: GT) ({ frames := 1, cells := 0, slots := 0, locals := 25 } : Room) (PcW [.ref h0, .int k, .int i, .int v] dC dI G [(h0, .inr (11, [.ref st, .int 0, .int 0, .ref rp, .int 0, .int 0, .int 0, .int 0, .int 0, .int 0, .ref tp, .int 0, .int 0, .int 0, .int 0, .int 0, .int 0, .int 0, .int 0, .ref cu, .ref lt, .ref od, .ref th, .ref be, .ref ln, .int 0, .ref ma, .int 0, .ref ah, .ref bh, .ref ik, .ref la, .ref lg, .ref ce, .int 0])), (la, .inl (G 0, 4, .inl (upd (upd (upd (upd (fun _ => 0) 0 (-4)) 1 (-4)) 2 (-4)) 3 (-4))))] sz) (va_Qi (fun (r : Int32) (u : Unit) => match u with | _ => (r = if 0 ≤ k.toInt ∧ k.toInt < 4 then -11 else -1) ∧ True) (fun _ _ => True) (va_A [(h0, .inr (11, [.ref st, .int 0, .int 0, .ref rp, .int 0, .int 0, .int 0, .int 0, .int 0, .int 0, .ref tp, .int 0, .int 0, .int 0, .int 0, .int 0, .int 0, .int 0, .int 0, .ref cu, .ref lt, .ref od, .ref th, .ref be, .ref ln, .int 0, .ref ma, .int 0, .ref ah, .ref bh, .ref ik, .ref la, .ref lg, .ref ce, .int 0])), (la, .inl (G 0, 4, .inl (upd (upd (upd (upd (fun _ => 0) 0 (-4)) 1 (-4)) 2 (-4)) 3 (-4))))] sz)) 0 0 (va_A [(h0, .inr (11, [.ref st, .int 0, .int 0, .ref rp, .int 0, .int 0, .int 0, .int 0, .int 0, .int 0, .ref tp, .int 0, .int 0, .int 0, .int 0, .int 0, .int 0, .int 0, .int 0, .ref cu, .ref lt, .ref od, .ref th, .ref be, .ref ln, .int 0, .ref ma, .int 0, .ref ah, .ref bh, .ref ik, .ref la, .ref lg, .ref ce, .int 0])), (la, .inl (G 0, 4, .inl (upd (upd (upd (upd (fun _ => 0) 0 (-4)) 1 (-4)) 2 (-4)) 3 (-4))))] sz) := by
  refine Met.ofW (cc := cX11_lay) (maxL := 4) (ret := (some .int)) (by decide) rfl ?_
  intro p e s m args below meth c s₁ B hml hv
  obtain ⟨rfl, hsz, hP, hK, hD0⟩ := hv
  have hx := B.exec
  have hb := B.bytes
  have hr := B.returns
  have hg : ∀ w ∈ GT, w.before ([.ref h0, .int k, .int i, .int v] : List Value).toArray s = true := fun w h => atoms_spec (ws := Cond.code yX11_lay cX11_lay 4 (some .int) :: GT) B.pre w (List.mem_cons_of_mem _ h)
  have hown : s.vm.findClass RX11 = some m.cls := findClass_of_methodNamed B.named
  have hlocks := B.notSynchronized
  subst hsz
  have hD := hD0.self (sz := s.heap.size)
  generalize hAe : va_A [(h0, .inr (11, [.ref st, .int 0, .int 0, .ref rp, .int 0, .int 0, .int 0, .int 0, .int 0, .int 0, .ref tp, .int 0, .int 0, .int 0, .int 0, .int 0, .int 0, .int 0, .int 0, .ref cu, .ref lt, .ref od, .ref th, .ref be, .ref ln, .int 0, .ref ma, .int 0, .ref ah, .ref bh, .ref ik, .ref la, .ref lg, .ref ce, .int 0])), (la, .inl (G 0, 4, .inl (upd (upd (upd (upd (fun _ => 0) 0 (-4)) 1 (-4)) 2 (-4)) 3 (-4))))] s.heap.size = A at hD ⊢
  have hA : ∀ q : Nat, s.heap.size ≤ q → A q := fun q h => by rw [← hAe]; exact Or.inr h
  have hS : va_S A s.heap s.heap [] := va_S.rf
  have hl := lv_entry ([.ref h0, .int k, .int i, .int v]) (n := 4) (Nat.le_of_ble_eq_true rfl)
  rw [lg_entry_eq]
  generalize (lg_sl ([.ref h0, .int k, .int i, .int v]) ++ List.replicate (4 - (lg_sl ([.ref h0, .int k, .int i, .int v])).length) Slot.unset).toArray = ls at hl ⊢
  have hl : lv_has ls 4 [(0, .ref h0), (1, .int k), (2, .int i), (3, .int v)] := hl
  refine lv_iload_n hx hb dX11_lay_0 rfl (lv_at hl 1 rfl) ?_
  refine lv_i2l (v := k.toInt64) hx hb dX11_lay_1 rfl ?_
  refine lv_lconst (v := 0) hx hb dX11_lay_2 (by decide) ?_
  refine lv_ldc2 (v := 3) hx hb hown (hg _ wt_1023) dX11_lay_3 ?_
  have hPc := hP.sub (ws' := []) [] rfl
  refine va_calli (va_runS (As := [.long k.toInt64, .long 0, .long 3]) (rest := []) ⟨hx, hb, hml, hown, hg⟩ (c_X11_in l dC dI G _ k.toInt64 0 3 ) (kwS hg mfX11_in wt_992 ⟨Nat.le_of_ble_eq_true rfl, Nat.le_of_ble_eq_true rfl⟩) (preSR hK hPc) rfl rfl hl.1 rfl (lv_room (Nat.le_of_ble_eq_true rfl)) dX11_lay_6 ⟨Nat.le_of_ble_eq_true rfl, Nat.le_of_ble_eq_true rfl⟩) hS (fun q h1 h2 => absurd h2 (Nat.not_le.mpr h1)) (fun q h => hA q (Nat.le_trans hS.1 h)) (fun r1 ur1 t H1 locs ht hvm w2 hB hz1 hk1 hS => ?_)
  have hP := keepR hP hk1
  obtain ⟨w2, w2x⟩ := w2
  try simp only [l_ii, show (0 : Int64).toInt = 0 from by decide, show (3 : Int64).toInt = 3 from by decide] at w2
  subst w2
  refine lv_if_ne (tgt := 14) hx hb dX11_lay_9 (by decide) (fun c3 => ?_) (fun c3 => ?_)
  · skip
    have b4 := if10_p c3
    have hsp : k = 0 ∨ k = 1 ∨ k = 2 ∨ k = 3 := by
      have t_b4 := b4
      have : (0 : Int32).toInt = 0 := by decide
      have : (1 : Int32).toInt = 1 := by decide
      have : (2 : Int32).toInt = 2 := by decide
      have : (3 : Int32).toInt = 3 := by decide
      rcases (show k.toInt = 0 ∨ k.toInt = 1 ∨ k.toInt = 2 ∨ k.toInt = 3 by omega) with q | q | q | q
      · exact Or.inl (Int32.toInt_inj.mp (by rw [q]; rfl))
      · exact Or.inr (Or.inl (Int32.toInt_inj.mp (by rw [q]; rfl)))
      · exact Or.inr (Or.inr (Or.inl (Int32.toInt_inj.mp (by rw [q]; rfl))))
      · exact Or.inr (Or.inr (Or.inr ((Int32.toInt_inj.mp (by rw [q]; rfl)))))
    rcases hsp with rfl | rfl | rfl | rfl
    · skip
      refine lv_aload_n hx hb dX11_lay_14 rfl (lv_at hl 0 rfl) ?_
      refine va_get (D := (dC, dI)) (ci := 11) (v := .ref la) (C := RX11) (T := TX11) (N := 35) hx hb hg inG11 hown hK.1 hP 0 rfl rfl 31 (by decide) (hg _ wt_909) (fun _ h9 => h9) rfl dX11_lay_15 ?_
      refine lv_iload_n hx hb dX11_lay_18 rfl (lv_at hl 1 rfl) ?_
      refine va_iald hx hb hK.1 hP 1 0 rfl rfl (vp_in_iff.mpr ⟨by decide, by decide⟩) dX11_lay_19 ?_
      refine lv_cg (y := (-4)) (by rfl) ?_
      refine lv_bipush (v := (-4)) hx hb dX11_lay_20 (by decide) ?_
      refine lv_icmp_ne (tgt := 28) hx hb dX11_lay_22 (by decide) (fun c5 => ?_) (fun c5 => ?_)
      · skip
        exact absurd c5 (by decide)
      · skip
        refine lv_bipush (v := (-11)) hx hb dX11_lay_25 (by decide) ?_
        have hpost : ((-11) : Int32) = if 0 ≤ (0 : Int32).toInt ∧ (0 : Int32).toInt < 4 then -11 else -1 := by
          have t_c5 := eqI c5
          have : ((-4) : Int32).toInt = -4 := (by decide)
          first | rfl | ((repeat' split) <;> first | rfl | omega)
        refine W.widen (k := 0) (n := 0) (by omega) (by omega) ?_
        exact W.iret (v := (-11)) hx hb hr (fun t ht hW => ⟨⟨(-11), (), rfl, ⟨hpost, trivial⟩, trivial⟩, hS.F ht⟩) hS.2.2 dX11_lay_27
    · skip
      refine lv_aload_n hx hb dX11_lay_14 rfl (lv_at hl 0 rfl) ?_
      refine va_get (D := (dC, dI)) (ci := 11) (v := .ref la) (C := RX11) (T := TX11) (N := 35) hx hb hg inG11 hown hK.1 hP 0 rfl rfl 31 (by decide) (hg _ wt_909) (fun _ h9 => h9) rfl dX11_lay_15 ?_
      refine lv_iload_n hx hb dX11_lay_18 rfl (lv_at hl 1 rfl) ?_
      refine va_iald hx hb hK.1 hP 1 0 rfl rfl (vp_in_iff.mpr ⟨by decide, by decide⟩) dX11_lay_19 ?_
      refine lv_cg (y := (-4)) (by rfl) ?_
      refine lv_bipush (v := (-4)) hx hb dX11_lay_20 (by decide) ?_
      refine lv_icmp_ne (tgt := 28) hx hb dX11_lay_22 (by decide) (fun c6 => ?_) (fun c6 => ?_)
      · skip
        exact absurd c6 (by decide)
      · skip
        refine lv_bipush (v := (-11)) hx hb dX11_lay_25 (by decide) ?_
        have hpost : ((-11) : Int32) = if 0 ≤ (1 : Int32).toInt ∧ (1 : Int32).toInt < 4 then -11 else -1 := by
          have t_c6 := eqI c6
          have : ((-4) : Int32).toInt = -4 := (by decide)
          first | rfl | ((repeat' split) <;> first | rfl | omega)
        refine W.widen (k := 0) (n := 0) (by omega) (by omega) ?_
        exact W.iret (v := (-11)) hx hb hr (fun t ht hW => ⟨⟨(-11), (), rfl, ⟨hpost, trivial⟩, trivial⟩, hS.F ht⟩) hS.2.2 dX11_lay_27
    · skip
      refine lv_aload_n hx hb dX11_lay_14 rfl (lv_at hl 0 rfl) ?_
      refine va_get (D := (dC, dI)) (ci := 11) (v := .ref la) (C := RX11) (T := TX11) (N := 35) hx hb hg inG11 hown hK.1 hP 0 rfl rfl 31 (by decide) (hg _ wt_909) (fun _ h9 => h9) rfl dX11_lay_15 ?_
      refine lv_iload_n hx hb dX11_lay_18 rfl (lv_at hl 1 rfl) ?_
      refine va_iald hx hb hK.1 hP 1 0 rfl rfl (vp_in_iff.mpr ⟨by decide, by decide⟩) dX11_lay_19 ?_
      refine lv_cg (y := (-4)) (by rfl) ?_
      refine lv_bipush (v := (-4)) hx hb dX11_lay_20 (by decide) ?_
      refine lv_icmp_ne (tgt := 28) hx hb dX11_lay_22 (by decide) (fun c7 => ?_) (fun c7 => ?_)
      · skip
        exact absurd c7 (by decide)
      · skip
        refine lv_bipush (v := (-11)) hx hb dX11_lay_25 (by decide) ?_
        have hpost : ((-11) : Int32) = if 0 ≤ (2 : Int32).toInt ∧ (2 : Int32).toInt < 4 then -11 else -1 := by
          have t_c7 := eqI c7
          have : ((-4) : Int32).toInt = -4 := (by decide)
          first | rfl | ((repeat' split) <;> first | rfl | omega)
        refine W.widen (k := 0) (n := 0) (by omega) (by omega) ?_
        exact W.iret (v := (-11)) hx hb hr (fun t ht hW => ⟨⟨(-11), (), rfl, ⟨hpost, trivial⟩, trivial⟩, hS.F ht⟩) hS.2.2 dX11_lay_27
    · skip
      refine lv_aload_n hx hb dX11_lay_14 rfl (lv_at hl 0 rfl) ?_
      refine va_get (D := (dC, dI)) (ci := 11) (v := .ref la) (C := RX11) (T := TX11) (N := 35) hx hb hg inG11 hown hK.1 hP 0 rfl rfl 31 (by decide) (hg _ wt_909) (fun _ h9 => h9) rfl dX11_lay_15 ?_
      refine lv_iload_n hx hb dX11_lay_18 rfl (lv_at hl 1 rfl) ?_
      refine va_iald hx hb hK.1 hP 1 0 rfl rfl (vp_in_iff.mpr ⟨by decide, by decide⟩) dX11_lay_19 ?_
      refine lv_cg (y := (-4)) (by rfl) ?_
      refine lv_bipush (v := (-4)) hx hb dX11_lay_20 (by decide) ?_
      refine lv_icmp_ne (tgt := 28) hx hb dX11_lay_22 (by decide) (fun c8 => ?_) (fun c8 => ?_)
      · skip
        exact absurd c8 (by decide)
      · skip
        refine lv_bipush (v := (-11)) hx hb dX11_lay_25 (by decide) ?_
        have hpost : ((-11) : Int32) = if 0 ≤ (3 : Int32).toInt ∧ (3 : Int32).toInt < 4 then -11 else -1 := by
          have t_c8 := eqI c8
          have : ((-4) : Int32).toInt = -4 := (by decide)
          first | rfl | ((repeat' split) <;> first | rfl | omega)
        refine W.widen (k := 0) (n := 0) (by omega) (by omega) ?_
        exact W.iret (v := (-11)) hx hb hr (fun t ht hW => ⟨⟨(-11), (), rfl, ⟨hpost, trivial⟩, trivial⟩, hS.F ht⟩) hS.2.2 dX11_lay_27
  · skip
    have b9 := if10_n c3
    refine lv_iconst (v := (-1)) hx hb dX11_lay_12 (by decide) ?_
    have hpost : ((-1) : Int32) = if 0 ≤ k.toInt ∧ k.toInt < 4 then -11 else -1 := by
      have t_b9 := b9
      first | rfl | ((repeat' split) <;> first | rfl | omega)
    refine W.widen (k := 0) (n := 0) (by omega) (by omega) ?_
    exact W.iret (v := (-1)) hx hb hr (fun t ht hW => ⟨⟨(-1), (), rfl, ⟨hpost, trivial⟩, trivial⟩, hS.F ht⟩) hS.2.2 dX11_lay_13

set_option maxHeartbeats 4000000 in
set_option maxRecDepth 100000 in
theorem c_X11_read (l : Launch) (dC : Nat → ClassId) (dI : Nat → Nat → Nat) (G : Nat → ClassId) (sz : Nat) (h0 st rp tp cu lt od th be ln ma ah bh ik la lg ce : Nat) (k lane f n : Int32)    : Met l yX11_read (Cond.code yX11_read cX11_read 9 (some .int) :: GT) ({ frames := 1, cells := 0, slots := 0, locals := 25 } : Room) (PcW [.ref h0, .int k, .int lane, .int f, .int n] dC dI G [(h0, .inr (11, [.ref st, .int 0, .int 0, .ref rp, .int 0, .int 0, .int 0, .int 0, .int 0, .int 0, .ref tp, .int 0, .int 0, .int 0, .int 0, .int 0, .int 0, .int 0, .int 0, .ref cu, .ref lt, .ref od, .ref th, .ref be, .ref ln, .int 0, .ref ma, .int 0, .ref ah, .ref bh, .ref ik, .ref la, .ref lg, .ref ce, .int 0])), (la, .inl (G 0, 4, .inl (upd (upd (upd (upd (fun _ => 0) 0 (-4)) 1 (-4)) 2 (-4)) 3 (-4)))), (st, .inl (G 0, 196, .inl (fun _ => 0)))] sz) (va_Qi (fun (r : Int32) (u : Unit) => match u with | _ => (r = if (0 ≤ k.toInt ∧ k.toInt < 4) ∧ (0 ≤ lane.toInt ∧ lane.toInt ≤ 2) ∧ (0 ≤ n.toInt ∧ n.toInt ≤ 20) then 0 else -1) ∧ True) (fun _ _ => True) (va_A [(h0, .inr (11, [.ref st, .int 0, .int 0, .ref rp, .int 0, .int 0, .int 0, .int 0, .int 0, .int 0, .ref tp, .int 0, .int 0, .int 0, .int 0, .int 0, .int 0, .int 0, .int 0, .ref cu, .ref lt, .ref od, .ref th, .ref be, .ref ln, .int 0, .ref ma, .int 0, .ref ah, .ref bh, .ref ik, .ref la, .ref lg, .ref ce, .int 0])), (la, .inl (G 0, 4, .inl (upd (upd (upd (upd (fun _ => 0) 0 (-4)) 1 (-4)) 2 (-4)) 3 (-4)))), (st, .inl (G 0, 196, .inl (fun _ => 0)))] sz)) 0 0 (va_A [(h0, .inr (11, [.ref st, .int 0, .int 0, .ref rp, .int 0, .int 0, .int 0, .int 0, .int 0, .int 0, .ref tp, .int 0, .int 0, .int 0, .int 0, .int 0, .int 0, .int 0, .int 0, .ref cu, .ref lt, .ref od, .ref th, .ref be, .ref ln, .int 0, .ref ma, .int 0, .ref ah, .ref bh, .ref ik, .ref la, .ref lg, .ref ce, .int 0])), (la, .inl (G 0, 4, .inl (upd (upd (upd (upd (fun _ => 0) 0 (-4)) 1 (-4)) 2 (-4)) 3 (-4)))), (st, .inl (G 0, 196, .inl (fun _ => 0)))] sz) := by
  refine Met.ofW (cc := cX11_read) (maxL := 9) (ret := (some .int)) (by decide) rfl ?_
  intro p e s m args below meth c s₁ B hml hv
  obtain ⟨rfl, hsz, hP, hK, hD0⟩ := hv
  have hx := B.exec
  have hb := B.bytes
  have hr := B.returns
  have hg : ∀ w ∈ GT, w.before ([.ref h0, .int k, .int lane, .int f, .int n] : List Value).toArray s = true := fun w h => atoms_spec (ws := Cond.code yX11_read cX11_read 9 (some .int) :: GT) B.pre w (List.mem_cons_of_mem _ h)
  have hown : s.vm.findClass RX11 = some m.cls := findClass_of_methodNamed B.named
  have hlocks := B.notSynchronized
  subst hsz
  have hD := hD0.self (sz := s.heap.size)
  generalize hAe : va_A [(h0, .inr (11, [.ref st, .int 0, .int 0, .ref rp, .int 0, .int 0, .int 0, .int 0, .int 0, .int 0, .ref tp, .int 0, .int 0, .int 0, .int 0, .int 0, .int 0, .int 0, .int 0, .ref cu, .ref lt, .ref od, .ref th, .ref be, .ref ln, .int 0, .ref ma, .int 0, .ref ah, .ref bh, .ref ik, .ref la, .ref lg, .ref ce, .int 0])), (la, .inl (G 0, 4, .inl (upd (upd (upd (upd (fun _ => 0) 0 (-4)) 1 (-4)) 2 (-4)) 3 (-4)))), (st, .inl (G 0, 196, .inl (fun _ => 0)))] s.heap.size = A at hD ⊢
  have hA : ∀ q : Nat, s.heap.size ≤ q → A q := fun q h => by rw [← hAe]; exact Or.inr h
  have hS : va_S A s.heap s.heap [] := va_S.rf
  have hl := lv_entry ([.ref h0, .int k, .int lane, .int f, .int n]) (n := 9) (Nat.le_of_ble_eq_true rfl)
  rw [lg_entry_eq]
  generalize (lg_sl ([.ref h0, .int k, .int lane, .int f, .int n]) ++ List.replicate (9 - (lg_sl ([.ref h0, .int k, .int lane, .int f, .int n])).length) Slot.unset).toArray = ls at hl ⊢
  have hl : lv_has ls 9 [(0, .ref h0), (1, .int k), (2, .int lane), (3, .int f), (4, .int n)] := hl
  refine lv_iload_n hx hb dX11_read_0 rfl (lv_at hl 1 rfl) ?_
  refine lv_i2l (v := k.toInt64) hx hb dX11_read_1 rfl ?_
  refine lv_lconst (v := 0) hx hb dX11_read_2 (by decide) ?_
  refine lv_ldc2 (v := 3) hx hb hown (hg _ wt_1023) dX11_read_3 ?_
  have hPc := hP.sub (ws' := []) [] rfl
  refine va_calli (va_runS (As := [.long k.toInt64, .long 0, .long 3]) (rest := []) ⟨hx, hb, hml, hown, hg⟩ (c_X11_in l dC dI G _ k.toInt64 0 3 ) (kwS hg mfX11_in wt_992 ⟨Nat.le_of_ble_eq_true rfl, Nat.le_of_ble_eq_true rfl⟩) (preSR hK hPc) rfl rfl hl.1 rfl (lv_room (Nat.le_of_ble_eq_true rfl)) dX11_read_6 ⟨Nat.le_of_ble_eq_true rfl, Nat.le_of_ble_eq_true rfl⟩) hS (fun q h1 h2 => absurd h2 (Nat.not_le.mpr h1)) (fun q h => hA q (Nat.le_trans hS.1 h)) (fun r1 ur1 t H1 locs ht hvm w2 hB hz1 hk1 hS => ?_)
  have hP := keepR hP hk1
  obtain ⟨w2, w2x⟩ := w2
  try simp only [l_ii, show (0 : Int64).toInt = 0 from by decide, show (3 : Int64).toInt = 3 from by decide] at w2
  subst w2
  refine lv_if_eq (tgt := 37) hx hb dX11_read_9 (by decide) (fun c3 => ?_) (fun c3 => ?_)
  · skip
    have b4 := if10_n c3
    refine lv_iconst (v := (-1)) hx hb dX11_read_37 (by decide) ?_
    have hpost : ((-1) : Int32) = if (0 ≤ k.toInt ∧ k.toInt < 4) ∧ (0 ≤ lane.toInt ∧ lane.toInt ≤ 2) ∧ (0 ≤ n.toInt ∧ n.toInt ≤ 20) then 0 else -1 := by
      have t_b4 := b4
      first | rfl | ((repeat' split) <;> first | rfl | omega)
    refine W.widen (k := 0) (n := 0) (by omega) (by omega) ?_
    exact W.iret (v := (-1)) hx hb hr (fun t ht hW => ⟨⟨(-1), (), rfl, ⟨hpost, trivial⟩, trivial⟩, hS.F ht⟩) hS.2.2 dX11_read_38
  · skip
    have b5 := if10_p c3
    refine lv_iload_n hx hb dX11_read_12 rfl (lv_at hl 2 rfl) ?_
    refine lv_i2l (v := lane.toInt64) hx hb dX11_read_13 rfl ?_
    refine lv_lconst (v := 0) hx hb dX11_read_14 (by decide) ?_
    refine lv_ldc2 (v := 2) hx hb hown (hg _ wt_1056) dX11_read_15 ?_
    have hPc := hP.sub (ws' := []) [] rfl
    refine va_calli (va_runS (As := [.long lane.toInt64, .long 0, .long 2]) (rest := []) ⟨hx, hb, hml, hown, hg⟩ (c_X11_in l dC dI G _ lane.toInt64 0 2 ) (kwS hg mfX11_in wt_992 ⟨Nat.le_of_ble_eq_true rfl, Nat.le_of_ble_eq_true rfl⟩) (preSR hK hPc) rfl rfl hl.1 rfl (lv_room (Nat.le_of_ble_eq_true rfl)) dX11_read_18 ⟨Nat.le_of_ble_eq_true rfl, Nat.le_of_ble_eq_true rfl⟩) hS (fun q h1 h2 => absurd h2 (Nat.not_le.mpr h1)) (fun q h => hA q (Nat.le_trans hS.1 h)) (fun r6 ur6 t H1 locs ht hvm w7 hB hz1 hk1 hS => ?_)
    have hP := keepR hP hk1
    obtain ⟨w7, w7x⟩ := w7
    try simp only [l_ii, show (0 : Int64).toInt = 0 from by decide, show (2 : Int64).toInt = 2 from by decide] at w7
    subst w7
    refine lv_if_eq (tgt := 37) hx hb dX11_read_21 (by decide) (fun c8 => ?_) (fun c8 => ?_)
    · skip
      have b9 := if10_n c8
      refine lv_iconst (v := (-1)) hx hb dX11_read_37 (by decide) ?_
      have hpost : ((-1) : Int32) = if (0 ≤ k.toInt ∧ k.toInt < 4) ∧ (0 ≤ lane.toInt ∧ lane.toInt ≤ 2) ∧ (0 ≤ n.toInt ∧ n.toInt ≤ 20) then 0 else -1 := by
        have t_b5 := b5
        have t_b9 := b9
        first | rfl | ((repeat' split) <;> first | rfl | omega)
      refine W.widen (k := 0) (n := 0) (by omega) (by omega) ?_
      exact W.iret (v := (-1)) hx hb hr (fun t ht hW => ⟨⟨(-1), (), rfl, ⟨hpost, trivial⟩, trivial⟩, hS.F ht⟩) hS.2.2 dX11_read_38
    · skip
      have b10 := if10_p c8
      refine lv_iload hx hb dX11_read_24 (lv_at hl 4 rfl) ?_
      refine lv_i2l (v := n.toInt64) hx hb dX11_read_26 rfl ?_
      refine lv_lconst (v := 0) hx hb dX11_read_27 (by decide) ?_
      refine lv_ldc2 (v := 20) hx hb hown (hg _ wt_1127) dX11_read_28 ?_
      have hPc := hP.sub (ws' := []) [] rfl
      refine va_calli (va_runS (As := [.long n.toInt64, .long 0, .long 20]) (rest := []) ⟨hx, hb, hml, hown, hg⟩ (c_X11_in l dC dI G _ n.toInt64 0 20 ) (kwS hg mfX11_in wt_992 ⟨Nat.le_of_ble_eq_true rfl, Nat.le_of_ble_eq_true rfl⟩) (preSR hK hPc) rfl rfl hl.1 rfl (lv_room (Nat.le_of_ble_eq_true rfl)) dX11_read_31 ⟨Nat.le_of_ble_eq_true rfl, Nat.le_of_ble_eq_true rfl⟩) hS (fun q h1 h2 => absurd h2 (Nat.not_le.mpr h1)) (fun q h => hA q (Nat.le_trans hS.1 h)) (fun r11 ur11 t H1 locs ht hvm w12 hB hz1 hk1 hS => ?_)
      have hP := keepR hP hk1
      obtain ⟨w12, w12x⟩ := w12
      try simp only [l_ii, show (0 : Int64).toInt = 0 from by decide, show (20 : Int64).toInt = 20 from by decide] at w12
      subst w12
      refine lv_if_ne (tgt := 39) hx hb dX11_read_34 (by decide) (fun c13 => ?_) (fun c13 => ?_)
      · skip
        have b14 := if10_p c13
        have hsp : k = 0 ∨ k = 1 ∨ k = 2 ∨ k = 3 := by
          have t_b5 := b5
          have t_b10 := b10
          have t_b14 := b14
          have : (0 : Int32).toInt = 0 := by decide
          have : (1 : Int32).toInt = 1 := by decide
          have : (2 : Int32).toInt = 2 := by decide
          have : (3 : Int32).toInt = 3 := by decide
          rcases (show k.toInt = 0 ∨ k.toInt = 1 ∨ k.toInt = 2 ∨ k.toInt = 3 by omega) with q | q | q | q
          · exact Or.inl (Int32.toInt_inj.mp (by rw [q]; rfl))
          · exact Or.inr (Or.inl (Int32.toInt_inj.mp (by rw [q]; rfl)))
          · exact Or.inr (Or.inr (Or.inl (Int32.toInt_inj.mp (by rw [q]; rfl))))
          · exact Or.inr (Or.inr (Or.inr ((Int32.toInt_inj.mp (by rw [q]; rfl)))))
        rcases hsp with rfl | rfl | rfl | rfl
        · skip
          refine lv_aload_n hx hb dX11_read_39 rfl (lv_at hl 0 rfl) ?_
          refine lv_iconst (v := 0) hx hb dX11_read_40 (by decide) ?_
          refine lv_sipush (v := 147) hx hb dX11_read_41 (by decide) ?_
          have hPc := hP.sub (ws' := [(h0, .inr (11, [.ref st, .int 0, .int 0, .ref rp, .int 0, .int 0, .int 0, .int 0, .int 0, .int 0, .ref tp, .int 0, .int 0, .int 0, .int 0, .int 0, .int 0, .int 0, .int 0, .ref cu, .ref lt, .ref od, .ref th, .ref be, .ref ln, .int 0, .ref ma, .int 0, .ref ah, .ref bh, .ref ik, .ref la, .ref lg, .ref ce, .int 0])), (st, .inl (G 0, 196, .inl (fun _ => 0)))]) [0, 2] rfl
          have hDc := hD.sub (ws' := [(h0, .inr (11, [.ref st, .int 0, .int 0, .ref rp, .int 0, .int 0, .int 0, .int 0, .int 0, .int 0, .ref tp, .int 0, .int 0, .int 0, .int 0, .int 0, .int 0, .int 0, .int 0, .ref cu, .ref lt, .ref od, .ref th, .ref be, .ref ln, .int 0, .ref ma, .int 0, .ref ah, .ref bh, .ref ik, .ref la, .ref lg, .ref ce, .int 0])), (st, .inl (G 0, 196, .inl (fun _ => 0)))]) [0, 2] (by decide) rfl
          have hFc := va_free (wc := [(h0, .inr (11, [.ref st, .int 0, .int 0, .ref rp, .int 0, .int 0, .int 0, .int 0, .int 0, .int 0, .ref tp, .int 0, .int 0, .int 0, .int 0, .int 0, .int 0, .int 0, .int 0, .ref cu, .ref lt, .ref od, .ref th, .ref be, .ref ln, .int 0, .ref ma, .int 0, .ref ah, .ref bh, .ref ik, .ref la, .ref lg, .ref ce, .int 0])), (st, .inl (G 0, 196, .inl (fun _ => 0)))]) hD hS hA [0, 2] rfl
          refine va_callv (va_runV (As := [.int 0, .int 147]) (rest := []) ⟨hx, hb, hml, hown, hg⟩ (c_X11_copies147 l dC dI G _ h0 st rp tp cu lt od th be ln ma ah bh ik la lg ce (fun _ => 0) ) (kwV hg mfX11_copies wt_1248 ⟨Nat.le_of_ble_eq_true rfl, Nat.le_of_ble_eq_true rfl⟩) (preVW hK hPc hDc (ci := 11) rfl rfl) rfl rfl hl.1 rfl (lv_room (Nat.le_of_ble_eq_true rfl)) dX11_read_44 ⟨Nat.le_of_ble_eq_true rfl, Nat.le_of_ble_eq_true rfl⟩) hS (fun q _ h => hFc q h) hFc (fun ur15 t H1 locs ht hvm w16 hB hz1 hk1 hS => ?_)
          obtain ⟨u17, rfl⟩ : ∃ z, z = ur15 := ⟨_, rfl⟩
          obtain ⟨hP1, hD1⟩ := hB
          rw [ht] at hP1
          obtain ⟨hP, hD⟩ := va_join (wr := [(la, .inl (G 0, 4, .inl (upd (upd (upd (upd (fun _ => 0) 0 (-4)) 1 (-4)) 2 (-4)) 3 (-4))))]) (w1 := [(h0, .inr (11, [.ref st, .int 0, .int 0, .ref rp, .int 0, .int 0, .int 0, .int 0, .int 0, .int 0, .ref tp, .int 0, .int 0, .int 0, .int 0, .int 0, .int 0, .int 0, .int 0, .ref cu, .ref lt, .ref od, .ref th, .ref be, .ref ln, .int 0, .ref ma, .int 0, .ref ah, .ref bh, .ref ik, .ref la, .ref lg, .ref ce, .int 0])), (st, .inl (G 0, 196, .inl u17))]) hP hD [0, 2] [1] rfl rfl (by decide) (by decide) hk1 hFc hP1 hD1
          generalize H1 = H at hP hS ⊢
          have hP : va_P (dC, dI) vwCl [(la, .inl (G 0, 4, .inl (upd (upd (upd (upd (fun _ => 0) 0 (-4)) 1 (-4)) 2 (-4)) 3 (-4)))), (h0, .inr (11, [.ref st, .int 0, .int 0, .ref rp, .int 0, .int 0, .int 0, .int 0, .int 0, .int 0, .ref tp, .int 0, .int 0, .int 0, .int 0, .int 0, .int 0, .int 0, .int 0, .ref cu, .ref lt, .ref od, .ref th, .ref be, .ref ln, .int 0, .ref ma, .int 0, .ref ah, .ref bh, .ref ik, .ref la, .ref lg, .ref ce, .int 0])), (st, .inl (G 0, 196, .inl u17))] H := hP
          have hD : va_D A [(la, .inl (G 0, 4, .inl (upd (upd (upd (upd (fun _ => 0) 0 (-4)) 1 (-4)) 2 (-4)) 3 (-4)))), (h0, .inr (11, [.ref st, .int 0, .int 0, .ref rp, .int 0, .int 0, .int 0, .int 0, .int 0, .int 0, .ref tp, .int 0, .int 0, .int 0, .int 0, .int 0, .int 0, .int 0, .int 0, .ref cu, .ref lt, .ref od, .ref th, .ref be, .ref ln, .int 0, .ref ma, .int 0, .ref ah, .ref bh, .ref ik, .ref la, .ref lg, .ref ce, .int 0])), (st, .inl (G 0, 196, .inl u17))] := hD
          refine lv_iconst (v := 0) hx hb dX11_read_47 (by decide) ?_
          refine lv_istore (lv' := [(5, .int 0), (0, .ref h0), (1, .int 0), (2, .int lane), (3, .int f), (4, .int n)]) hx hb dX11_read_48 hl (by decide) rfl (fun ls hl => ?_)
          refine lv_iconst (v := 0) hx hb dX11_read_50 (by decide) ?_
          refine lv_istore (lv' := [(6, .int 0), (5, .int 0), (0, .ref h0), (1, .int 0), (2, .int lane), (3, .int f), (4, .int n)]) hx hb dX11_read_51 hl (by decide) rfl (fun ls hl => ?_)
          refine lv_iconst (v := 0) hx hb dX11_read_53 (by decide) ?_
          refine lv_istore (lv' := [(7, .int 0), (6, .int 0), (5, .int 0), (0, .ref h0), (1, .int 0), (2, .int lane), (3, .int f), (4, .int n)]) hx hb dX11_read_54 hl (by decide) rfl (fun ls hl => ?_)
          refine lv_iload hx hb dX11_read_56 (lv_at hl 0 rfl) ?_
          refine lv_iconst (v := 2) hx hb dX11_read_58 (by decide) ?_
          refine lv_iload hx hb dX11_read_59 (lv_at hl 7 rfl) ?_
          refine lv_imul hx hb dX11_read_61 ?_
          refine lv_icmp_ge (tgt := 198) hx hb dX11_read_62 (by decide) (fun c18 => ?_) (fun c18 => ?_)
          · skip
            refine lv_aload_n hx hb dX11_read_198 rfl (lv_at hl 3 rfl) ?_
            refine lv_iload hx hb dX11_read_199 (lv_at hl 2 rfl) ?_
            refine va_put (D := (dC, dI)) (ci := 11) (v := .int 0) (ty := .int) (C := RX11) (T := TX11) (N := 35) hx hb hg inG11 tyX11 tyX11_ok nmX11 hown hK.1 hP hD hS 1 rfl rfl 34 (by decide) (hg _ wt_912) (fun _ h9 => h9) rfl (by decide +kernel) rfl rfl (Nat.le_of_ble_eq_true rfl) dX11_read_201 (fun H locs hP hD hS => ?_)
            have hP : va_P (dC, dI) vwCl [(la, .inl (G 0, 4, .inl (upd (upd (upd (upd (fun _ => 0) 0 (-4)) 1 (-4)) 2 (-4)) 3 (-4)))), (h0, .inr (11, [.ref st, .int 0, .int 0, .ref rp, .int 0, .int 0, .int 0, .int 0, .int 0, .int 0, .ref tp, .int 0, .int 0, .int 0, .int 0, .int 0, .int 0, .int 0, .int 0, .ref cu, .ref lt, .ref od, .ref th, .ref be, .ref ln, .int 0, .ref ma, .int 0, .ref ah, .ref bh, .ref ik, .ref la, .ref lg, .ref ce, .int 0])), (st, .inl (G 0, 196, .inl u17))] H := hP
            have hD : va_D A [(la, .inl (G 0, 4, .inl (upd (upd (upd (upd (fun _ => 0) 0 (-4)) 1 (-4)) 2 (-4)) 3 (-4)))), (h0, .inr (11, [.ref st, .int 0, .int 0, .ref rp, .int 0, .int 0, .int 0, .int 0, .int 0, .int 0, .ref tp, .int 0, .int 0, .int 0, .int 0, .int 0, .int 0, .int 0, .int 0, .ref cu, .ref lt, .ref od, .ref th, .ref be, .ref ln, .int 0, .ref ma, .int 0, .ref ah, .ref bh, .ref ik, .ref la, .ref lg, .ref ce, .int 0])), (st, .inl (G 0, 196, .inl u17))] := hD
            refine lv_iload hx hb dX11_read_204 (lv_at hl 1 rfl) ?_
            have hpost : (0 : Int32) = if (0 ≤ (0 : Int32).toInt ∧ (0 : Int32).toInt < 4) ∧ (0 ≤ lane.toInt ∧ lane.toInt ≤ 2) ∧ (0 ≤ n.toInt ∧ n.toInt ≤ 20) then 0 else -1 := by
              have t_b10 := b10
              have t_b14 := b14
              have t_c18 := leI c18
              have : (0 : Int32).toInt = 0 := (by decide)
              first | rfl | ((repeat' split) <;> first | rfl | omega)
            refine W.widen (k := 0) (n := 0) (by omega) (by omega) ?_
            exact W.iret (v := 0) hx hb hr (fun t ht hW => ⟨⟨0, (), rfl, ⟨hpost, trivial⟩, trivial⟩, hS.F ht⟩) hS.2.2 dX11_read_206
          · skip
            refine lv_iload hx hb dX11_read_65 (lv_at hl 2 rfl) ?_
            refine lv_if_ne (tgt := 198) hx hb dX11_read_67 (by decide) (fun c19 => ?_) (fun c19 => ?_)
            · skip
              exact absurd c19 (by decide)
            · skip
              refine lv_aload_n hx hb dX11_read_70 rfl (lv_at hl 3 rfl) ?_
              refine va_get (D := (dC, dI)) (ci := 11) (v := .ref la) (C := RX11) (T := TX11) (N := 35) hx hb hg inG11 hown hK.1 hP 1 rfl rfl 31 (by decide) (hg _ wt_909) (fun _ h9 => h9) rfl dX11_read_71 ?_
              refine lv_iload_n hx hb dX11_read_74 rfl (lv_at hl 4 rfl) ?_
              refine va_iald hx hb hK.1 hP 0 0 rfl rfl (vp_in_iff.mpr ⟨by decide, by decide⟩) dX11_read_75 ?_
              refine lv_cg (y := (-4)) (by rfl) ?_
              refine lv_bipush (v := (-4)) hx hb dX11_read_76 (by decide) ?_
              refine lv_icmp_ne (tgt := 85) hx hb dX11_read_78 (by decide) (fun c20 => ?_) (fun c20 => ?_)
              · skip
                exact absurd c20 (by decide)
              · skip
                refine lv_iconst (v := 1) hx hb dX11_read_81 (by decide) ?_
                refine lv_goto (tgt := 126) hx hb dX11_read_82 (by decide) ?_
                refine lv_istore (lv' := [(5, .int 1), (7, .int 0), (6, .int 0), (0, .ref h0), (1, .int 0), (2, .int lane), (3, .int f), (4, .int n)]) hx hb dX11_read_126 hl (by decide) rfl (fun ls hl => ?_)
                refine lv_iload hx hb dX11_read_128 (lv_at hl 0 rfl) ?_
                refine lv_if_ne (tgt := 192) hx hb dX11_read_130 (by decide) (fun c21 => ?_) (fun c21 => ?_)
                · skip
                  refine lv_iinc (v := 1) (lv' := [(7, .int 1), (5, .int 1), (6, .int 0), (0, .ref h0), (1, .int 0), (2, .int lane), (3, .int f), (4, .int n)]) hx hb dX11_read_192 hl (k := 1) rfl (by decide) (by decide) rfl (fun ls hl => ?_)
                  refine lv_goto (tgt := 56) hx hb dX11_read_195 (by decide) ?_
                  refine lv_iload hx hb dX11_read_56 (lv_at hl 0 rfl) ?_
                  refine lv_iconst (v := 2) hx hb dX11_read_58 (by decide) ?_
                  refine lv_iload hx hb dX11_read_59 (lv_at hl 7 rfl) ?_
                  refine lv_imul hx hb dX11_read_61 ?_
                  refine lv_icmp_ge (tgt := 198) hx hb dX11_read_62 (by decide) (fun c22 => ?_) (fun c22 => ?_)
                  · skip
                    refine lv_aload_n hx hb dX11_read_198 rfl (lv_at hl 3 rfl) ?_
                    refine lv_iload hx hb dX11_read_199 (lv_at hl 1 rfl) ?_
                    refine va_put (D := (dC, dI)) (ci := 11) (v := .int 1) (ty := .int) (C := RX11) (T := TX11) (N := 35) hx hb hg inG11 tyX11 tyX11_ok nmX11 hown hK.1 hP hD hS 1 rfl rfl 34 (by decide) (hg _ wt_912) (fun _ h9 => h9) rfl (by decide +kernel) rfl rfl (Nat.le_of_ble_eq_true rfl) dX11_read_201 (fun H locs hP hD hS => ?_)
                    have hP : va_P (dC, dI) vwCl [(la, .inl (G 0, 4, .inl (upd (upd (upd (upd (fun _ => 0) 0 (-4)) 1 (-4)) 2 (-4)) 3 (-4)))), (h0, .inr (11, [.ref st, .int 0, .int 0, .ref rp, .int 0, .int 0, .int 0, .int 0, .int 0, .int 0, .ref tp, .int 0, .int 0, .int 0, .int 0, .int 0, .int 0, .int 0, .int 0, .ref cu, .ref lt, .ref od, .ref th, .ref be, .ref ln, .int 0, .ref ma, .int 0, .ref ah, .ref bh, .ref ik, .ref la, .ref lg, .ref ce, .int 1])), (st, .inl (G 0, 196, .inl u17))] H := hP
                    have hD : va_D A [(la, .inl (G 0, 4, .inl (upd (upd (upd (upd (fun _ => 0) 0 (-4)) 1 (-4)) 2 (-4)) 3 (-4)))), (h0, .inr (11, [.ref st, .int 0, .int 0, .ref rp, .int 0, .int 0, .int 0, .int 0, .int 0, .int 0, .ref tp, .int 0, .int 0, .int 0, .int 0, .int 0, .int 0, .int 0, .int 0, .ref cu, .ref lt, .ref od, .ref th, .ref be, .ref ln, .int 0, .ref ma, .int 0, .ref ah, .ref bh, .ref ik, .ref la, .ref lg, .ref ce, .int 1])), (st, .inl (G 0, 196, .inl u17))] := hD
                    refine lv_iload hx hb dX11_read_204 (lv_at hl 2 rfl) ?_
                    have hpost : (0 : Int32) = if (0 ≤ (0 : Int32).toInt ∧ (0 : Int32).toInt < 4) ∧ (0 ≤ lane.toInt ∧ lane.toInt ≤ 2) ∧ (0 ≤ n.toInt ∧ n.toInt ≤ 20) then 0 else -1 := by
                      have t_b10 := b10
                      have t_b14 := b14
                      have t_c18 := nleI c18
                      have t_c19 := eqI c19
                      have t_c20 := eqI c20
                      have t_c21 := neI c21
                      have t_c22 := leI c22
                      have : ((-4) : Int32).toInt = -4 := (by decide)
                      have : (0 : Int32).toInt = 0 := (by decide)
                      have : (1 : Int32).toInt = 1 := (by decide)
                      first | rfl | ((repeat' split) <;> first | rfl | omega)
                    refine W.widen (k := 0) (n := 0) (by omega) (by omega) ?_
                    exact W.iret (v := 0) hx hb hr (fun t ht hW => ⟨⟨0, (), rfl, ⟨hpost, trivial⟩, trivial⟩, hS.F ht⟩) hS.2.2 dX11_read_206
                  · skip
                    refine lv_iload hx hb dX11_read_65 (lv_at hl 1 rfl) ?_
                    refine lv_if_ne (tgt := 198) hx hb dX11_read_67 (by decide) (fun c23 => ?_) (fun c23 => ?_)
                    · skip
                      refine lv_aload_n hx hb dX11_read_198 rfl (lv_at hl 3 rfl) ?_
                      refine lv_iload hx hb dX11_read_199 (lv_at hl 1 rfl) ?_
                      refine va_put (D := (dC, dI)) (ci := 11) (v := .int 1) (ty := .int) (C := RX11) (T := TX11) (N := 35) hx hb hg inG11 tyX11 tyX11_ok nmX11 hown hK.1 hP hD hS 1 rfl rfl 34 (by decide) (hg _ wt_912) (fun _ h9 => h9) rfl (by decide +kernel) rfl rfl (Nat.le_of_ble_eq_true rfl) dX11_read_201 (fun H locs hP hD hS => ?_)
                      have hP : va_P (dC, dI) vwCl [(la, .inl (G 0, 4, .inl (upd (upd (upd (upd (fun _ => 0) 0 (-4)) 1 (-4)) 2 (-4)) 3 (-4)))), (h0, .inr (11, [.ref st, .int 0, .int 0, .ref rp, .int 0, .int 0, .int 0, .int 0, .int 0, .int 0, .ref tp, .int 0, .int 0, .int 0, .int 0, .int 0, .int 0, .int 0, .int 0, .ref cu, .ref lt, .ref od, .ref th, .ref be, .ref ln, .int 0, .ref ma, .int 0, .ref ah, .ref bh, .ref ik, .ref la, .ref lg, .ref ce, .int 1])), (st, .inl (G 0, 196, .inl u17))] H := hP
                      have hD : va_D A [(la, .inl (G 0, 4, .inl (upd (upd (upd (upd (fun _ => 0) 0 (-4)) 1 (-4)) 2 (-4)) 3 (-4)))), (h0, .inr (11, [.ref st, .int 0, .int 0, .ref rp, .int 0, .int 0, .int 0, .int 0, .int 0, .int 0, .ref tp, .int 0, .int 0, .int 0, .int 0, .int 0, .int 0, .int 0, .int 0, .ref cu, .ref lt, .ref od, .ref th, .ref be, .ref ln, .int 0, .ref ma, .int 0, .ref ah, .ref bh, .ref ik, .ref la, .ref lg, .ref ce, .int 1])), (st, .inl (G 0, 196, .inl u17))] := hD
                      refine lv_iload hx hb dX11_read_204 (lv_at hl 2 rfl) ?_
                      have hpost : (0 : Int32) = if (0 ≤ (0 : Int32).toInt ∧ (0 : Int32).toInt < 4) ∧ (0 ≤ lane.toInt ∧ lane.toInt ≤ 2) ∧ (0 ≤ n.toInt ∧ n.toInt ≤ 20) then 0 else -1 := by
                        have t_b10 := b10
                        have t_b14 := b14
                        have t_c18 := nleI c18
                        have t_c19 := eqI c19
                        have t_c20 := eqI c20
                        have t_c21 := neI c21
                        have t_c22 := nleI c22
                        have t_c23 := neI c23
                        have : ((-4) : Int32).toInt = -4 := (by decide)
                        have : (0 : Int32).toInt = 0 := (by decide)
                        have : (1 : Int32).toInt = 1 := (by decide)
                        first | rfl | ((repeat' split) <;> first | rfl | omega)
                      refine W.widen (k := 0) (n := 0) (by omega) (by omega) ?_
                      exact W.iret (v := 0) hx hb hr (fun t ht hW => ⟨⟨0, (), rfl, ⟨hpost, trivial⟩, trivial⟩, hS.F ht⟩) hS.2.2 dX11_read_206
                    · skip
                      exact absurd c23 (by decide)
                · skip
                  exact absurd c21 (by decide)
        · skip
          refine lv_aload_n hx hb dX11_read_39 rfl (lv_at hl 0 rfl) ?_
          refine lv_iconst (v := 0) hx hb dX11_read_40 (by decide) ?_
          refine lv_sipush (v := 147) hx hb dX11_read_41 (by decide) ?_
          have hPc := hP.sub (ws' := [(h0, .inr (11, [.ref st, .int 0, .int 0, .ref rp, .int 0, .int 0, .int 0, .int 0, .int 0, .int 0, .ref tp, .int 0, .int 0, .int 0, .int 0, .int 0, .int 0, .int 0, .int 0, .ref cu, .ref lt, .ref od, .ref th, .ref be, .ref ln, .int 0, .ref ma, .int 0, .ref ah, .ref bh, .ref ik, .ref la, .ref lg, .ref ce, .int 0])), (st, .inl (G 0, 196, .inl (fun _ => 0)))]) [0, 2] rfl
          have hDc := hD.sub (ws' := [(h0, .inr (11, [.ref st, .int 0, .int 0, .ref rp, .int 0, .int 0, .int 0, .int 0, .int 0, .int 0, .ref tp, .int 0, .int 0, .int 0, .int 0, .int 0, .int 0, .int 0, .int 0, .ref cu, .ref lt, .ref od, .ref th, .ref be, .ref ln, .int 0, .ref ma, .int 0, .ref ah, .ref bh, .ref ik, .ref la, .ref lg, .ref ce, .int 0])), (st, .inl (G 0, 196, .inl (fun _ => 0)))]) [0, 2] (by decide) rfl
          have hFc := va_free (wc := [(h0, .inr (11, [.ref st, .int 0, .int 0, .ref rp, .int 0, .int 0, .int 0, .int 0, .int 0, .int 0, .ref tp, .int 0, .int 0, .int 0, .int 0, .int 0, .int 0, .int 0, .int 0, .ref cu, .ref lt, .ref od, .ref th, .ref be, .ref ln, .int 0, .ref ma, .int 0, .ref ah, .ref bh, .ref ik, .ref la, .ref lg, .ref ce, .int 0])), (st, .inl (G 0, 196, .inl (fun _ => 0)))]) hD hS hA [0, 2] rfl
          refine va_callv (va_runV (As := [.int 0, .int 147]) (rest := []) ⟨hx, hb, hml, hown, hg⟩ (c_X11_copies147 l dC dI G _ h0 st rp tp cu lt od th be ln ma ah bh ik la lg ce (fun _ => 0) ) (kwV hg mfX11_copies wt_1248 ⟨Nat.le_of_ble_eq_true rfl, Nat.le_of_ble_eq_true rfl⟩) (preVW hK hPc hDc (ci := 11) rfl rfl) rfl rfl hl.1 rfl (lv_room (Nat.le_of_ble_eq_true rfl)) dX11_read_44 ⟨Nat.le_of_ble_eq_true rfl, Nat.le_of_ble_eq_true rfl⟩) hS (fun q _ h => hFc q h) hFc (fun ur24 t H1 locs ht hvm w25 hB hz1 hk1 hS => ?_)
          obtain ⟨u26, rfl⟩ : ∃ z, z = ur24 := ⟨_, rfl⟩
          obtain ⟨hP1, hD1⟩ := hB
          rw [ht] at hP1
          obtain ⟨hP, hD⟩ := va_join (wr := [(la, .inl (G 0, 4, .inl (upd (upd (upd (upd (fun _ => 0) 0 (-4)) 1 (-4)) 2 (-4)) 3 (-4))))]) (w1 := [(h0, .inr (11, [.ref st, .int 0, .int 0, .ref rp, .int 0, .int 0, .int 0, .int 0, .int 0, .int 0, .ref tp, .int 0, .int 0, .int 0, .int 0, .int 0, .int 0, .int 0, .int 0, .ref cu, .ref lt, .ref od, .ref th, .ref be, .ref ln, .int 0, .ref ma, .int 0, .ref ah, .ref bh, .ref ik, .ref la, .ref lg, .ref ce, .int 0])), (st, .inl (G 0, 196, .inl u26))]) hP hD [0, 2] [1] rfl rfl (by decide) (by decide) hk1 hFc hP1 hD1
          generalize H1 = H at hP hS ⊢
          have hP : va_P (dC, dI) vwCl [(la, .inl (G 0, 4, .inl (upd (upd (upd (upd (fun _ => 0) 0 (-4)) 1 (-4)) 2 (-4)) 3 (-4)))), (h0, .inr (11, [.ref st, .int 0, .int 0, .ref rp, .int 0, .int 0, .int 0, .int 0, .int 0, .int 0, .ref tp, .int 0, .int 0, .int 0, .int 0, .int 0, .int 0, .int 0, .int 0, .ref cu, .ref lt, .ref od, .ref th, .ref be, .ref ln, .int 0, .ref ma, .int 0, .ref ah, .ref bh, .ref ik, .ref la, .ref lg, .ref ce, .int 0])), (st, .inl (G 0, 196, .inl u26))] H := hP
          have hD : va_D A [(la, .inl (G 0, 4, .inl (upd (upd (upd (upd (fun _ => 0) 0 (-4)) 1 (-4)) 2 (-4)) 3 (-4)))), (h0, .inr (11, [.ref st, .int 0, .int 0, .ref rp, .int 0, .int 0, .int 0, .int 0, .int 0, .int 0, .ref tp, .int 0, .int 0, .int 0, .int 0, .int 0, .int 0, .int 0, .int 0, .ref cu, .ref lt, .ref od, .ref th, .ref be, .ref ln, .int 0, .ref ma, .int 0, .ref ah, .ref bh, .ref ik, .ref la, .ref lg, .ref ce, .int 0])), (st, .inl (G 0, 196, .inl u26))] := hD
          refine lv_iconst (v := 0) hx hb dX11_read_47 (by decide) ?_
          refine lv_istore (lv' := [(5, .int 0), (0, .ref h0), (1, .int 1), (2, .int lane), (3, .int f), (4, .int n)]) hx hb dX11_read_48 hl (by decide) rfl (fun ls hl => ?_)
          refine lv_iconst (v := 0) hx hb dX11_read_50 (by decide) ?_
          refine lv_istore (lv' := [(6, .int 0), (5, .int 0), (0, .ref h0), (1, .int 1), (2, .int lane), (3, .int f), (4, .int n)]) hx hb dX11_read_51 hl (by decide) rfl (fun ls hl => ?_)
          refine lv_iconst (v := 0) hx hb dX11_read_53 (by decide) ?_
          refine lv_istore (lv' := [(7, .int 0), (6, .int 0), (5, .int 0), (0, .ref h0), (1, .int 1), (2, .int lane), (3, .int f), (4, .int n)]) hx hb dX11_read_54 hl (by decide) rfl (fun ls hl => ?_)
          refine lv_iload hx hb dX11_read_56 (lv_at hl 0 rfl) ?_
          refine lv_iconst (v := 2) hx hb dX11_read_58 (by decide) ?_
          refine lv_iload hx hb dX11_read_59 (lv_at hl 7 rfl) ?_
          refine lv_imul hx hb dX11_read_61 ?_
          refine lv_icmp_ge (tgt := 198) hx hb dX11_read_62 (by decide) (fun c27 => ?_) (fun c27 => ?_)
          · skip
            refine lv_aload_n hx hb dX11_read_198 rfl (lv_at hl 3 rfl) ?_
            refine lv_iload hx hb dX11_read_199 (lv_at hl 2 rfl) ?_
            refine va_put (D := (dC, dI)) (ci := 11) (v := .int 0) (ty := .int) (C := RX11) (T := TX11) (N := 35) hx hb hg inG11 tyX11 tyX11_ok nmX11 hown hK.1 hP hD hS 1 rfl rfl 34 (by decide) (hg _ wt_912) (fun _ h9 => h9) rfl (by decide +kernel) rfl rfl (Nat.le_of_ble_eq_true rfl) dX11_read_201 (fun H locs hP hD hS => ?_)
            have hP : va_P (dC, dI) vwCl [(la, .inl (G 0, 4, .inl (upd (upd (upd (upd (fun _ => 0) 0 (-4)) 1 (-4)) 2 (-4)) 3 (-4)))), (h0, .inr (11, [.ref st, .int 0, .int 0, .ref rp, .int 0, .int 0, .int 0, .int 0, .int 0, .int 0, .ref tp, .int 0, .int 0, .int 0, .int 0, .int 0, .int 0, .int 0, .int 0, .ref cu, .ref lt, .ref od, .ref th, .ref be, .ref ln, .int 0, .ref ma, .int 0, .ref ah, .ref bh, .ref ik, .ref la, .ref lg, .ref ce, .int 0])), (st, .inl (G 0, 196, .inl u26))] H := hP
            have hD : va_D A [(la, .inl (G 0, 4, .inl (upd (upd (upd (upd (fun _ => 0) 0 (-4)) 1 (-4)) 2 (-4)) 3 (-4)))), (h0, .inr (11, [.ref st, .int 0, .int 0, .ref rp, .int 0, .int 0, .int 0, .int 0, .int 0, .int 0, .ref tp, .int 0, .int 0, .int 0, .int 0, .int 0, .int 0, .int 0, .int 0, .ref cu, .ref lt, .ref od, .ref th, .ref be, .ref ln, .int 0, .ref ma, .int 0, .ref ah, .ref bh, .ref ik, .ref la, .ref lg, .ref ce, .int 0])), (st, .inl (G 0, 196, .inl u26))] := hD
            refine lv_iload hx hb dX11_read_204 (lv_at hl 1 rfl) ?_
            have hpost : (0 : Int32) = if (0 ≤ (1 : Int32).toInt ∧ (1 : Int32).toInt < 4) ∧ (0 ≤ lane.toInt ∧ lane.toInt ≤ 2) ∧ (0 ≤ n.toInt ∧ n.toInt ≤ 20) then 0 else -1 := by
              have t_b10 := b10
              have t_b14 := b14
              have t_c27 := leI c27
              have : (0 : Int32).toInt = 0 := (by decide)
              first | rfl | ((repeat' split) <;> first | rfl | omega)
            refine W.widen (k := 0) (n := 0) (by omega) (by omega) ?_
            exact W.iret (v := 0) hx hb hr (fun t ht hW => ⟨⟨0, (), rfl, ⟨hpost, trivial⟩, trivial⟩, hS.F ht⟩) hS.2.2 dX11_read_206
          · skip
            refine lv_iload hx hb dX11_read_65 (lv_at hl 2 rfl) ?_
            refine lv_if_ne (tgt := 198) hx hb dX11_read_67 (by decide) (fun c28 => ?_) (fun c28 => ?_)
            · skip
              exact absurd c28 (by decide)
            · skip
              refine lv_aload_n hx hb dX11_read_70 rfl (lv_at hl 3 rfl) ?_
              refine va_get (D := (dC, dI)) (ci := 11) (v := .ref la) (C := RX11) (T := TX11) (N := 35) hx hb hg inG11 hown hK.1 hP 1 rfl rfl 31 (by decide) (hg _ wt_909) (fun _ h9 => h9) rfl dX11_read_71 ?_
              refine lv_iload_n hx hb dX11_read_74 rfl (lv_at hl 4 rfl) ?_
              refine va_iald hx hb hK.1 hP 0 0 rfl rfl (vp_in_iff.mpr ⟨by decide, by decide⟩) dX11_read_75 ?_
              refine lv_cg (y := (-4)) (by rfl) ?_
              refine lv_bipush (v := (-4)) hx hb dX11_read_76 (by decide) ?_
              refine lv_icmp_ne (tgt := 85) hx hb dX11_read_78 (by decide) (fun c29 => ?_) (fun c29 => ?_)
              · skip
                exact absurd c29 (by decide)
              · skip
                refine lv_iconst (v := 1) hx hb dX11_read_81 (by decide) ?_
                refine lv_goto (tgt := 126) hx hb dX11_read_82 (by decide) ?_
                refine lv_istore (lv' := [(5, .int 1), (7, .int 0), (6, .int 0), (0, .ref h0), (1, .int 1), (2, .int lane), (3, .int f), (4, .int n)]) hx hb dX11_read_126 hl (by decide) rfl (fun ls hl => ?_)
                refine lv_iload hx hb dX11_read_128 (lv_at hl 0 rfl) ?_
                refine lv_if_ne (tgt := 192) hx hb dX11_read_130 (by decide) (fun c30 => ?_) (fun c30 => ?_)
                · skip
                  refine lv_iinc (v := 1) (lv' := [(7, .int 1), (5, .int 1), (6, .int 0), (0, .ref h0), (1, .int 1), (2, .int lane), (3, .int f), (4, .int n)]) hx hb dX11_read_192 hl (k := 1) rfl (by decide) (by decide) rfl (fun ls hl => ?_)
                  refine lv_goto (tgt := 56) hx hb dX11_read_195 (by decide) ?_
                  refine lv_iload hx hb dX11_read_56 (lv_at hl 0 rfl) ?_
                  refine lv_iconst (v := 2) hx hb dX11_read_58 (by decide) ?_
                  refine lv_iload hx hb dX11_read_59 (lv_at hl 7 rfl) ?_
                  refine lv_imul hx hb dX11_read_61 ?_
                  refine lv_icmp_ge (tgt := 198) hx hb dX11_read_62 (by decide) (fun c31 => ?_) (fun c31 => ?_)
                  · skip
                    refine lv_aload_n hx hb dX11_read_198 rfl (lv_at hl 3 rfl) ?_
                    refine lv_iload hx hb dX11_read_199 (lv_at hl 1 rfl) ?_
                    refine va_put (D := (dC, dI)) (ci := 11) (v := .int 1) (ty := .int) (C := RX11) (T := TX11) (N := 35) hx hb hg inG11 tyX11 tyX11_ok nmX11 hown hK.1 hP hD hS 1 rfl rfl 34 (by decide) (hg _ wt_912) (fun _ h9 => h9) rfl (by decide +kernel) rfl rfl (Nat.le_of_ble_eq_true rfl) dX11_read_201 (fun H locs hP hD hS => ?_)
                    have hP : va_P (dC, dI) vwCl [(la, .inl (G 0, 4, .inl (upd (upd (upd (upd (fun _ => 0) 0 (-4)) 1 (-4)) 2 (-4)) 3 (-4)))), (h0, .inr (11, [.ref st, .int 0, .int 0, .ref rp, .int 0, .int 0, .int 0, .int 0, .int 0, .int 0, .ref tp, .int 0, .int 0, .int 0, .int 0, .int 0, .int 0, .int 0, .int 0, .ref cu, .ref lt, .ref od, .ref th, .ref be, .ref ln, .int 0, .ref ma, .int 0, .ref ah, .ref bh, .ref ik, .ref la, .ref lg, .ref ce, .int 1])), (st, .inl (G 0, 196, .inl u26))] H := hP
                    have hD : va_D A [(la, .inl (G 0, 4, .inl (upd (upd (upd (upd (fun _ => 0) 0 (-4)) 1 (-4)) 2 (-4)) 3 (-4)))), (h0, .inr (11, [.ref st, .int 0, .int 0, .ref rp, .int 0, .int 0, .int 0, .int 0, .int 0, .int 0, .ref tp, .int 0, .int 0, .int 0, .int 0, .int 0, .int 0, .int 0, .int 0, .ref cu, .ref lt, .ref od, .ref th, .ref be, .ref ln, .int 0, .ref ma, .int 0, .ref ah, .ref bh, .ref ik, .ref la, .ref lg, .ref ce, .int 1])), (st, .inl (G 0, 196, .inl u26))] := hD
                    refine lv_iload hx hb dX11_read_204 (lv_at hl 2 rfl) ?_
                    have hpost : (0 : Int32) = if (0 ≤ (1 : Int32).toInt ∧ (1 : Int32).toInt < 4) ∧ (0 ≤ lane.toInt ∧ lane.toInt ≤ 2) ∧ (0 ≤ n.toInt ∧ n.toInt ≤ 20) then 0 else -1 := by
                      have t_b10 := b10
                      have t_b14 := b14
                      have t_c27 := nleI c27
                      have t_c28 := eqI c28
                      have t_c29 := eqI c29
                      have t_c30 := neI c30
                      have t_c31 := leI c31
                      have : ((-4) : Int32).toInt = -4 := (by decide)
                      have : (0 : Int32).toInt = 0 := (by decide)
                      have : (1 : Int32).toInt = 1 := (by decide)
                      first | rfl | ((repeat' split) <;> first | rfl | omega)
                    refine W.widen (k := 0) (n := 0) (by omega) (by omega) ?_
                    exact W.iret (v := 0) hx hb hr (fun t ht hW => ⟨⟨0, (), rfl, ⟨hpost, trivial⟩, trivial⟩, hS.F ht⟩) hS.2.2 dX11_read_206
                  · skip
                    refine lv_iload hx hb dX11_read_65 (lv_at hl 1 rfl) ?_
                    refine lv_if_ne (tgt := 198) hx hb dX11_read_67 (by decide) (fun c32 => ?_) (fun c32 => ?_)
                    · skip
                      refine lv_aload_n hx hb dX11_read_198 rfl (lv_at hl 3 rfl) ?_
                      refine lv_iload hx hb dX11_read_199 (lv_at hl 1 rfl) ?_
                      refine va_put (D := (dC, dI)) (ci := 11) (v := .int 1) (ty := .int) (C := RX11) (T := TX11) (N := 35) hx hb hg inG11 tyX11 tyX11_ok nmX11 hown hK.1 hP hD hS 1 rfl rfl 34 (by decide) (hg _ wt_912) (fun _ h9 => h9) rfl (by decide +kernel) rfl rfl (Nat.le_of_ble_eq_true rfl) dX11_read_201 (fun H locs hP hD hS => ?_)
                      have hP : va_P (dC, dI) vwCl [(la, .inl (G 0, 4, .inl (upd (upd (upd (upd (fun _ => 0) 0 (-4)) 1 (-4)) 2 (-4)) 3 (-4)))), (h0, .inr (11, [.ref st, .int 0, .int 0, .ref rp, .int 0, .int 0, .int 0, .int 0, .int 0, .int 0, .ref tp, .int 0, .int 0, .int 0, .int 0, .int 0, .int 0, .int 0, .int 0, .ref cu, .ref lt, .ref od, .ref th, .ref be, .ref ln, .int 0, .ref ma, .int 0, .ref ah, .ref bh, .ref ik, .ref la, .ref lg, .ref ce, .int 1])), (st, .inl (G 0, 196, .inl u26))] H := hP
                      have hD : va_D A [(la, .inl (G 0, 4, .inl (upd (upd (upd (upd (fun _ => 0) 0 (-4)) 1 (-4)) 2 (-4)) 3 (-4)))), (h0, .inr (11, [.ref st, .int 0, .int 0, .ref rp, .int 0, .int 0, .int 0, .int 0, .int 0, .int 0, .ref tp, .int 0, .int 0, .int 0, .int 0, .int 0, .int 0, .int 0, .int 0, .ref cu, .ref lt, .ref od, .ref th, .ref be, .ref ln, .int 0, .ref ma, .int 0, .ref ah, .ref bh, .ref ik, .ref la, .ref lg, .ref ce, .int 1])), (st, .inl (G 0, 196, .inl u26))] := hD
                      refine lv_iload hx hb dX11_read_204 (lv_at hl 2 rfl) ?_
                      have hpost : (0 : Int32) = if (0 ≤ (1 : Int32).toInt ∧ (1 : Int32).toInt < 4) ∧ (0 ≤ lane.toInt ∧ lane.toInt ≤ 2) ∧ (0 ≤ n.toInt ∧ n.toInt ≤ 20) then 0 else -1 := by
                        have t_b10 := b10
                        have t_b14 := b14
                        have t_c27 := nleI c27
                        have t_c28 := eqI c28
                        have t_c29 := eqI c29
                        have t_c30 := neI c30
                        have t_c31 := nleI c31
                        have t_c32 := neI c32
                        have : ((-4) : Int32).toInt = -4 := (by decide)
                        have : (0 : Int32).toInt = 0 := (by decide)
                        have : (1 : Int32).toInt = 1 := (by decide)
                        first | rfl | ((repeat' split) <;> first | rfl | omega)
                      refine W.widen (k := 0) (n := 0) (by omega) (by omega) ?_
                      exact W.iret (v := 0) hx hb hr (fun t ht hW => ⟨⟨0, (), rfl, ⟨hpost, trivial⟩, trivial⟩, hS.F ht⟩) hS.2.2 dX11_read_206
                    · skip
                      exact absurd c32 (by decide)
                · skip
                  exact absurd c30 (by decide)
        · skip
          refine lv_aload_n hx hb dX11_read_39 rfl (lv_at hl 0 rfl) ?_
          refine lv_iconst (v := 0) hx hb dX11_read_40 (by decide) ?_
          refine lv_sipush (v := 147) hx hb dX11_read_41 (by decide) ?_
          have hPc := hP.sub (ws' := [(h0, .inr (11, [.ref st, .int 0, .int 0, .ref rp, .int 0, .int 0, .int 0, .int 0, .int 0, .int 0, .ref tp, .int 0, .int 0, .int 0, .int 0, .int 0, .int 0, .int 0, .int 0, .ref cu, .ref lt, .ref od, .ref th, .ref be, .ref ln, .int 0, .ref ma, .int 0, .ref ah, .ref bh, .ref ik, .ref la, .ref lg, .ref ce, .int 0])), (st, .inl (G 0, 196, .inl (fun _ => 0)))]) [0, 2] rfl
          have hDc := hD.sub (ws' := [(h0, .inr (11, [.ref st, .int 0, .int 0, .ref rp, .int 0, .int 0, .int 0, .int 0, .int 0, .int 0, .ref tp, .int 0, .int 0, .int 0, .int 0, .int 0, .int 0, .int 0, .int 0, .ref cu, .ref lt, .ref od, .ref th, .ref be, .ref ln, .int 0, .ref ma, .int 0, .ref ah, .ref bh, .ref ik, .ref la, .ref lg, .ref ce, .int 0])), (st, .inl (G 0, 196, .inl (fun _ => 0)))]) [0, 2] (by decide) rfl
          have hFc := va_free (wc := [(h0, .inr (11, [.ref st, .int 0, .int 0, .ref rp, .int 0, .int 0, .int 0, .int 0, .int 0, .int 0, .ref tp, .int 0, .int 0, .int 0, .int 0, .int 0, .int 0, .int 0, .int 0, .ref cu, .ref lt, .ref od, .ref th, .ref be, .ref ln, .int 0, .ref ma, .int 0, .ref ah, .ref bh, .ref ik, .ref la, .ref lg, .ref ce, .int 0])), (st, .inl (G 0, 196, .inl (fun _ => 0)))]) hD hS hA [0, 2] rfl
          refine va_callv (va_runV (As := [.int 0, .int 147]) (rest := []) ⟨hx, hb, hml, hown, hg⟩ (c_X11_copies147 l dC dI G _ h0 st rp tp cu lt od th be ln ma ah bh ik la lg ce (fun _ => 0) ) (kwV hg mfX11_copies wt_1248 ⟨Nat.le_of_ble_eq_true rfl, Nat.le_of_ble_eq_true rfl⟩) (preVW hK hPc hDc (ci := 11) rfl rfl) rfl rfl hl.1 rfl (lv_room (Nat.le_of_ble_eq_true rfl)) dX11_read_44 ⟨Nat.le_of_ble_eq_true rfl, Nat.le_of_ble_eq_true rfl⟩) hS (fun q _ h => hFc q h) hFc (fun ur33 t H1 locs ht hvm w34 hB hz1 hk1 hS => ?_)
          obtain ⟨u35, rfl⟩ : ∃ z, z = ur33 := ⟨_, rfl⟩
          obtain ⟨hP1, hD1⟩ := hB
          rw [ht] at hP1
          obtain ⟨hP, hD⟩ := va_join (wr := [(la, .inl (G 0, 4, .inl (upd (upd (upd (upd (fun _ => 0) 0 (-4)) 1 (-4)) 2 (-4)) 3 (-4))))]) (w1 := [(h0, .inr (11, [.ref st, .int 0, .int 0, .ref rp, .int 0, .int 0, .int 0, .int 0, .int 0, .int 0, .ref tp, .int 0, .int 0, .int 0, .int 0, .int 0, .int 0, .int 0, .int 0, .ref cu, .ref lt, .ref od, .ref th, .ref be, .ref ln, .int 0, .ref ma, .int 0, .ref ah, .ref bh, .ref ik, .ref la, .ref lg, .ref ce, .int 0])), (st, .inl (G 0, 196, .inl u35))]) hP hD [0, 2] [1] rfl rfl (by decide) (by decide) hk1 hFc hP1 hD1
          generalize H1 = H at hP hS ⊢
          have hP : va_P (dC, dI) vwCl [(la, .inl (G 0, 4, .inl (upd (upd (upd (upd (fun _ => 0) 0 (-4)) 1 (-4)) 2 (-4)) 3 (-4)))), (h0, .inr (11, [.ref st, .int 0, .int 0, .ref rp, .int 0, .int 0, .int 0, .int 0, .int 0, .int 0, .ref tp, .int 0, .int 0, .int 0, .int 0, .int 0, .int 0, .int 0, .int 0, .ref cu, .ref lt, .ref od, .ref th, .ref be, .ref ln, .int 0, .ref ma, .int 0, .ref ah, .ref bh, .ref ik, .ref la, .ref lg, .ref ce, .int 0])), (st, .inl (G 0, 196, .inl u35))] H := hP
          have hD : va_D A [(la, .inl (G 0, 4, .inl (upd (upd (upd (upd (fun _ => 0) 0 (-4)) 1 (-4)) 2 (-4)) 3 (-4)))), (h0, .inr (11, [.ref st, .int 0, .int 0, .ref rp, .int 0, .int 0, .int 0, .int 0, .int 0, .int 0, .ref tp, .int 0, .int 0, .int 0, .int 0, .int 0, .int 0, .int 0, .int 0, .ref cu, .ref lt, .ref od, .ref th, .ref be, .ref ln, .int 0, .ref ma, .int 0, .ref ah, .ref bh, .ref ik, .ref la, .ref lg, .ref ce, .int 0])), (st, .inl (G 0, 196, .inl u35))] := hD
          refine lv_iconst (v := 0) hx hb dX11_read_47 (by decide) ?_
          refine lv_istore (lv' := [(5, .int 0), (0, .ref h0), (1, .int 2), (2, .int lane), (3, .int f), (4, .int n)]) hx hb dX11_read_48 hl (by decide) rfl (fun ls hl => ?_)
          refine lv_iconst (v := 0) hx hb dX11_read_50 (by decide) ?_
          refine lv_istore (lv' := [(6, .int 0), (5, .int 0), (0, .ref h0), (1, .int 2), (2, .int lane), (3, .int f), (4, .int n)]) hx hb dX11_read_51 hl (by decide) rfl (fun ls hl => ?_)
          refine lv_iconst (v := 0) hx hb dX11_read_53 (by decide) ?_
          refine lv_istore (lv' := [(7, .int 0), (6, .int 0), (5, .int 0), (0, .ref h0), (1, .int 2), (2, .int lane), (3, .int f), (4, .int n)]) hx hb dX11_read_54 hl (by decide) rfl (fun ls hl => ?_)
          refine lv_iload hx hb dX11_read_56 (lv_at hl 0 rfl) ?_
          refine lv_iconst (v := 2) hx hb dX11_read_58 (by decide) ?_
          refine lv_iload hx hb dX11_read_59 (lv_at hl 7 rfl) ?_
          refine lv_imul hx hb dX11_read_61 ?_
          refine lv_icmp_ge (tgt := 198) hx hb dX11_read_62 (by decide) (fun c36 => ?_) (fun c36 => ?_)
          · skip
            refine lv_aload_n hx hb dX11_read_198 rfl (lv_at hl 3 rfl) ?_
            refine lv_iload hx hb dX11_read_199 (lv_at hl 2 rfl) ?_
            refine va_put (D := (dC, dI)) (ci := 11) (v := .int 0) (ty := .int) (C := RX11) (T := TX11) (N := 35) hx hb hg inG11 tyX11 tyX11_ok nmX11 hown hK.1 hP hD hS 1 rfl rfl 34 (by decide) (hg _ wt_912) (fun _ h9 => h9) rfl (by decide +kernel) rfl rfl (Nat.le_of_ble_eq_true rfl) dX11_read_201 (fun H locs hP hD hS => ?_)
            have hP : va_P (dC, dI) vwCl [(la, .inl (G 0, 4, .inl (upd (upd (upd (upd (fun _ => 0) 0 (-4)) 1 (-4)) 2 (-4)) 3 (-4)))), (h0, .inr (11, [.ref st, .int 0, .int 0, .ref rp, .int 0, .int 0, .int 0, .int 0, .int 0, .int 0, .ref tp, .int 0, .int 0, .int 0, .int 0, .int 0, .int 0, .int 0, .int 0, .ref cu, .ref lt, .ref od, .ref th, .ref be, .ref ln, .int 0, .ref ma, .int 0, .ref ah, .ref bh, .ref ik, .ref la, .ref lg, .ref ce, .int 0])), (st, .inl (G 0, 196, .inl u35))] H := hP
            have hD : va_D A [(la, .inl (G 0, 4, .inl (upd (upd (upd (upd (fun _ => 0) 0 (-4)) 1 (-4)) 2 (-4)) 3 (-4)))), (h0, .inr (11, [.ref st, .int 0, .int 0, .ref rp, .int 0, .int 0, .int 0, .int 0, .int 0, .int 0, .ref tp, .int 0, .int 0, .int 0, .int 0, .int 0, .int 0, .int 0, .int 0, .ref cu, .ref lt, .ref od, .ref th, .ref be, .ref ln, .int 0, .ref ma, .int 0, .ref ah, .ref bh, .ref ik, .ref la, .ref lg, .ref ce, .int 0])), (st, .inl (G 0, 196, .inl u35))] := hD
            refine lv_iload hx hb dX11_read_204 (lv_at hl 1 rfl) ?_
            have hpost : (0 : Int32) = if (0 ≤ (2 : Int32).toInt ∧ (2 : Int32).toInt < 4) ∧ (0 ≤ lane.toInt ∧ lane.toInt ≤ 2) ∧ (0 ≤ n.toInt ∧ n.toInt ≤ 20) then 0 else -1 := by
              have t_b10 := b10
              have t_b14 := b14
              have t_c36 := leI c36
              have : (0 : Int32).toInt = 0 := (by decide)
              first | rfl | ((repeat' split) <;> first | rfl | omega)
            refine W.widen (k := 0) (n := 0) (by omega) (by omega) ?_
            exact W.iret (v := 0) hx hb hr (fun t ht hW => ⟨⟨0, (), rfl, ⟨hpost, trivial⟩, trivial⟩, hS.F ht⟩) hS.2.2 dX11_read_206
          · skip
            refine lv_iload hx hb dX11_read_65 (lv_at hl 2 rfl) ?_
            refine lv_if_ne (tgt := 198) hx hb dX11_read_67 (by decide) (fun c37 => ?_) (fun c37 => ?_)
            · skip
              exact absurd c37 (by decide)
            · skip
              refine lv_aload_n hx hb dX11_read_70 rfl (lv_at hl 3 rfl) ?_
              refine va_get (D := (dC, dI)) (ci := 11) (v := .ref la) (C := RX11) (T := TX11) (N := 35) hx hb hg inG11 hown hK.1 hP 1 rfl rfl 31 (by decide) (hg _ wt_909) (fun _ h9 => h9) rfl dX11_read_71 ?_
              refine lv_iload_n hx hb dX11_read_74 rfl (lv_at hl 4 rfl) ?_
              refine va_iald hx hb hK.1 hP 0 0 rfl rfl (vp_in_iff.mpr ⟨by decide, by decide⟩) dX11_read_75 ?_
              refine lv_cg (y := (-4)) (by rfl) ?_
              refine lv_bipush (v := (-4)) hx hb dX11_read_76 (by decide) ?_
              refine lv_icmp_ne (tgt := 85) hx hb dX11_read_78 (by decide) (fun c38 => ?_) (fun c38 => ?_)
              · skip
                exact absurd c38 (by decide)
              · skip
                refine lv_iconst (v := 1) hx hb dX11_read_81 (by decide) ?_
                refine lv_goto (tgt := 126) hx hb dX11_read_82 (by decide) ?_
                refine lv_istore (lv' := [(5, .int 1), (7, .int 0), (6, .int 0), (0, .ref h0), (1, .int 2), (2, .int lane), (3, .int f), (4, .int n)]) hx hb dX11_read_126 hl (by decide) rfl (fun ls hl => ?_)
                refine lv_iload hx hb dX11_read_128 (lv_at hl 0 rfl) ?_
                refine lv_if_ne (tgt := 192) hx hb dX11_read_130 (by decide) (fun c39 => ?_) (fun c39 => ?_)
                · skip
                  refine lv_iinc (v := 1) (lv' := [(7, .int 1), (5, .int 1), (6, .int 0), (0, .ref h0), (1, .int 2), (2, .int lane), (3, .int f), (4, .int n)]) hx hb dX11_read_192 hl (k := 1) rfl (by decide) (by decide) rfl (fun ls hl => ?_)
                  refine lv_goto (tgt := 56) hx hb dX11_read_195 (by decide) ?_
                  refine lv_iload hx hb dX11_read_56 (lv_at hl 0 rfl) ?_
                  refine lv_iconst (v := 2) hx hb dX11_read_58 (by decide) ?_
                  refine lv_iload hx hb dX11_read_59 (lv_at hl 7 rfl) ?_
                  refine lv_imul hx hb dX11_read_61 ?_
                  refine lv_icmp_ge (tgt := 198) hx hb dX11_read_62 (by decide) (fun c40 => ?_) (fun c40 => ?_)
                  · skip
                    refine lv_aload_n hx hb dX11_read_198 rfl (lv_at hl 3 rfl) ?_
                    refine lv_iload hx hb dX11_read_199 (lv_at hl 1 rfl) ?_
                    refine va_put (D := (dC, dI)) (ci := 11) (v := .int 1) (ty := .int) (C := RX11) (T := TX11) (N := 35) hx hb hg inG11 tyX11 tyX11_ok nmX11 hown hK.1 hP hD hS 1 rfl rfl 34 (by decide) (hg _ wt_912) (fun _ h9 => h9) rfl (by decide +kernel) rfl rfl (Nat.le_of_ble_eq_true rfl) dX11_read_201 (fun H locs hP hD hS => ?_)
                    have hP : va_P (dC, dI) vwCl [(la, .inl (G 0, 4, .inl (upd (upd (upd (upd (fun _ => 0) 0 (-4)) 1 (-4)) 2 (-4)) 3 (-4)))), (h0, .inr (11, [.ref st, .int 0, .int 0, .ref rp, .int 0, .int 0, .int 0, .int 0, .int 0, .int 0, .ref tp, .int 0, .int 0, .int 0, .int 0, .int 0, .int 0, .int 0, .int 0, .ref cu, .ref lt, .ref od, .ref th, .ref be, .ref ln, .int 0, .ref ma, .int 0, .ref ah, .ref bh, .ref ik, .ref la, .ref lg, .ref ce, .int 1])), (st, .inl (G 0, 196, .inl u35))] H := hP
                    have hD : va_D A [(la, .inl (G 0, 4, .inl (upd (upd (upd (upd (fun _ => 0) 0 (-4)) 1 (-4)) 2 (-4)) 3 (-4)))), (h0, .inr (11, [.ref st, .int 0, .int 0, .ref rp, .int 0, .int 0, .int 0, .int 0, .int 0, .int 0, .ref tp, .int 0, .int 0, .int 0, .int 0, .int 0, .int 0, .int 0, .int 0, .ref cu, .ref lt, .ref od, .ref th, .ref be, .ref ln, .int 0, .ref ma, .int 0, .ref ah, .ref bh, .ref ik, .ref la, .ref lg, .ref ce, .int 1])), (st, .inl (G 0, 196, .inl u35))] := hD
                    refine lv_iload hx hb dX11_read_204 (lv_at hl 2 rfl) ?_
                    have hpost : (0 : Int32) = if (0 ≤ (2 : Int32).toInt ∧ (2 : Int32).toInt < 4) ∧ (0 ≤ lane.toInt ∧ lane.toInt ≤ 2) ∧ (0 ≤ n.toInt ∧ n.toInt ≤ 20) then 0 else -1 := by
                      have t_b10 := b10
                      have t_b14 := b14
                      have t_c36 := nleI c36
                      have t_c37 := eqI c37
                      have t_c38 := eqI c38
                      have t_c39 := neI c39
                      have t_c40 := leI c40
                      have : ((-4) : Int32).toInt = -4 := (by decide)
                      have : (0 : Int32).toInt = 0 := (by decide)
                      have : (1 : Int32).toInt = 1 := (by decide)
                      first | rfl | ((repeat' split) <;> first | rfl | omega)
                    refine W.widen (k := 0) (n := 0) (by omega) (by omega) ?_
                    exact W.iret (v := 0) hx hb hr (fun t ht hW => ⟨⟨0, (), rfl, ⟨hpost, trivial⟩, trivial⟩, hS.F ht⟩) hS.2.2 dX11_read_206
                  · skip
                    refine lv_iload hx hb dX11_read_65 (lv_at hl 1 rfl) ?_
                    refine lv_if_ne (tgt := 198) hx hb dX11_read_67 (by decide) (fun c41 => ?_) (fun c41 => ?_)
                    · skip
                      refine lv_aload_n hx hb dX11_read_198 rfl (lv_at hl 3 rfl) ?_
                      refine lv_iload hx hb dX11_read_199 (lv_at hl 1 rfl) ?_
                      refine va_put (D := (dC, dI)) (ci := 11) (v := .int 1) (ty := .int) (C := RX11) (T := TX11) (N := 35) hx hb hg inG11 tyX11 tyX11_ok nmX11 hown hK.1 hP hD hS 1 rfl rfl 34 (by decide) (hg _ wt_912) (fun _ h9 => h9) rfl (by decide +kernel) rfl rfl (Nat.le_of_ble_eq_true rfl) dX11_read_201 (fun H locs hP hD hS => ?_)
                      have hP : va_P (dC, dI) vwCl [(la, .inl (G 0, 4, .inl (upd (upd (upd (upd (fun _ => 0) 0 (-4)) 1 (-4)) 2 (-4)) 3 (-4)))), (h0, .inr (11, [.ref st, .int 0, .int 0, .ref rp, .int 0, .int 0, .int 0, .int 0, .int 0, .int 0, .ref tp, .int 0, .int 0, .int 0, .int 0, .int 0, .int 0, .int 0, .int 0, .ref cu, .ref lt, .ref od, .ref th, .ref be, .ref ln, .int 0, .ref ma, .int 0, .ref ah, .ref bh, .ref ik, .ref la, .ref lg, .ref ce, .int 1])), (st, .inl (G 0, 196, .inl u35))] H := hP
                      have hD : va_D A [(la, .inl (G 0, 4, .inl (upd (upd (upd (upd (fun _ => 0) 0 (-4)) 1 (-4)) 2 (-4)) 3 (-4)))), (h0, .inr (11, [.ref st, .int 0, .int 0, .ref rp, .int 0, .int 0, .int 0, .int 0, .int 0, .int 0, .ref tp, .int 0, .int 0, .int 0, .int 0, .int 0, .int 0, .int 0, .int 0, .ref cu, .ref lt, .ref od, .ref th, .ref be, .ref ln, .int 0, .ref ma, .int 0, .ref ah, .ref bh, .ref ik, .ref la, .ref lg, .ref ce, .int 1])), (st, .inl (G 0, 196, .inl u35))] := hD
                      refine lv_iload hx hb dX11_read_204 (lv_at hl 2 rfl) ?_
                      have hpost : (0 : Int32) = if (0 ≤ (2 : Int32).toInt ∧ (2 : Int32).toInt < 4) ∧ (0 ≤ lane.toInt ∧ lane.toInt ≤ 2) ∧ (0 ≤ n.toInt ∧ n.toInt ≤ 20) then 0 else -1 := by
                        have t_b10 := b10
                        have t_b14 := b14
                        have t_c36 := nleI c36
                        have t_c37 := eqI c37
                        have t_c38 := eqI c38
                        have t_c39 := neI c39
                        have t_c40 := nleI c40
                        have t_c41 := neI c41
                        have : ((-4) : Int32).toInt = -4 := (by decide)
                        have : (0 : Int32).toInt = 0 := (by decide)
                        have : (1 : Int32).toInt = 1 := (by decide)
                        first | rfl | ((repeat' split) <;> first | rfl | omega)
                      refine W.widen (k := 0) (n := 0) (by omega) (by omega) ?_
                      exact W.iret (v := 0) hx hb hr (fun t ht hW => ⟨⟨0, (), rfl, ⟨hpost, trivial⟩, trivial⟩, hS.F ht⟩) hS.2.2 dX11_read_206
                    · skip
                      exact absurd c41 (by decide)
                · skip
                  exact absurd c39 (by decide)
        · skip
          refine lv_aload_n hx hb dX11_read_39 rfl (lv_at hl 0 rfl) ?_
          refine lv_iconst (v := 0) hx hb dX11_read_40 (by decide) ?_
          refine lv_sipush (v := 147) hx hb dX11_read_41 (by decide) ?_
          have hPc := hP.sub (ws' := [(h0, .inr (11, [.ref st, .int 0, .int 0, .ref rp, .int 0, .int 0, .int 0, .int 0, .int 0, .int 0, .ref tp, .int 0, .int 0, .int 0, .int 0, .int 0, .int 0, .int 0, .int 0, .ref cu, .ref lt, .ref od, .ref th, .ref be, .ref ln, .int 0, .ref ma, .int 0, .ref ah, .ref bh, .ref ik, .ref la, .ref lg, .ref ce, .int 0])), (st, .inl (G 0, 196, .inl (fun _ => 0)))]) [0, 2] rfl
          have hDc := hD.sub (ws' := [(h0, .inr (11, [.ref st, .int 0, .int 0, .ref rp, .int 0, .int 0, .int 0, .int 0, .int 0, .int 0, .ref tp, .int 0, .int 0, .int 0, .int 0, .int 0, .int 0, .int 0, .int 0, .ref cu, .ref lt, .ref od, .ref th, .ref be, .ref ln, .int 0, .ref ma, .int 0, .ref ah, .ref bh, .ref ik, .ref la, .ref lg, .ref ce, .int 0])), (st, .inl (G 0, 196, .inl (fun _ => 0)))]) [0, 2] (by decide) rfl
          have hFc := va_free (wc := [(h0, .inr (11, [.ref st, .int 0, .int 0, .ref rp, .int 0, .int 0, .int 0, .int 0, .int 0, .int 0, .ref tp, .int 0, .int 0, .int 0, .int 0, .int 0, .int 0, .int 0, .int 0, .ref cu, .ref lt, .ref od, .ref th, .ref be, .ref ln, .int 0, .ref ma, .int 0, .ref ah, .ref bh, .ref ik, .ref la, .ref lg, .ref ce, .int 0])), (st, .inl (G 0, 196, .inl (fun _ => 0)))]) hD hS hA [0, 2] rfl
          refine va_callv (va_runV (As := [.int 0, .int 147]) (rest := []) ⟨hx, hb, hml, hown, hg⟩ (c_X11_copies147 l dC dI G _ h0 st rp tp cu lt od th be ln ma ah bh ik la lg ce (fun _ => 0) ) (kwV hg mfX11_copies wt_1248 ⟨Nat.le_of_ble_eq_true rfl, Nat.le_of_ble_eq_true rfl⟩) (preVW hK hPc hDc (ci := 11) rfl rfl) rfl rfl hl.1 rfl (lv_room (Nat.le_of_ble_eq_true rfl)) dX11_read_44 ⟨Nat.le_of_ble_eq_true rfl, Nat.le_of_ble_eq_true rfl⟩) hS (fun q _ h => hFc q h) hFc (fun ur42 t H1 locs ht hvm w43 hB hz1 hk1 hS => ?_)
          obtain ⟨u44, rfl⟩ : ∃ z, z = ur42 := ⟨_, rfl⟩
          obtain ⟨hP1, hD1⟩ := hB
          rw [ht] at hP1
          obtain ⟨hP, hD⟩ := va_join (wr := [(la, .inl (G 0, 4, .inl (upd (upd (upd (upd (fun _ => 0) 0 (-4)) 1 (-4)) 2 (-4)) 3 (-4))))]) (w1 := [(h0, .inr (11, [.ref st, .int 0, .int 0, .ref rp, .int 0, .int 0, .int 0, .int 0, .int 0, .int 0, .ref tp, .int 0, .int 0, .int 0, .int 0, .int 0, .int 0, .int 0, .int 0, .ref cu, .ref lt, .ref od, .ref th, .ref be, .ref ln, .int 0, .ref ma, .int 0, .ref ah, .ref bh, .ref ik, .ref la, .ref lg, .ref ce, .int 0])), (st, .inl (G 0, 196, .inl u44))]) hP hD [0, 2] [1] rfl rfl (by decide) (by decide) hk1 hFc hP1 hD1
          generalize H1 = H at hP hS ⊢
          have hP : va_P (dC, dI) vwCl [(la, .inl (G 0, 4, .inl (upd (upd (upd (upd (fun _ => 0) 0 (-4)) 1 (-4)) 2 (-4)) 3 (-4)))), (h0, .inr (11, [.ref st, .int 0, .int 0, .ref rp, .int 0, .int 0, .int 0, .int 0, .int 0, .int 0, .ref tp, .int 0, .int 0, .int 0, .int 0, .int 0, .int 0, .int 0, .int 0, .ref cu, .ref lt, .ref od, .ref th, .ref be, .ref ln, .int 0, .ref ma, .int 0, .ref ah, .ref bh, .ref ik, .ref la, .ref lg, .ref ce, .int 0])), (st, .inl (G 0, 196, .inl u44))] H := hP
          have hD : va_D A [(la, .inl (G 0, 4, .inl (upd (upd (upd (upd (fun _ => 0) 0 (-4)) 1 (-4)) 2 (-4)) 3 (-4)))), (h0, .inr (11, [.ref st, .int 0, .int 0, .ref rp, .int 0, .int 0, .int 0, .int 0, .int 0, .int 0, .ref tp, .int 0, .int 0, .int 0, .int 0, .int 0, .int 0, .int 0, .int 0, .ref cu, .ref lt, .ref od, .ref th, .ref be, .ref ln, .int 0, .ref ma, .int 0, .ref ah, .ref bh, .ref ik, .ref la, .ref lg, .ref ce, .int 0])), (st, .inl (G 0, 196, .inl u44))] := hD
          refine lv_iconst (v := 0) hx hb dX11_read_47 (by decide) ?_
          refine lv_istore (lv' := [(5, .int 0), (0, .ref h0), (1, .int 3), (2, .int lane), (3, .int f), (4, .int n)]) hx hb dX11_read_48 hl (by decide) rfl (fun ls hl => ?_)
          refine lv_iconst (v := 0) hx hb dX11_read_50 (by decide) ?_
          refine lv_istore (lv' := [(6, .int 0), (5, .int 0), (0, .ref h0), (1, .int 3), (2, .int lane), (3, .int f), (4, .int n)]) hx hb dX11_read_51 hl (by decide) rfl (fun ls hl => ?_)
          refine lv_iconst (v := 0) hx hb dX11_read_53 (by decide) ?_
          refine lv_istore (lv' := [(7, .int 0), (6, .int 0), (5, .int 0), (0, .ref h0), (1, .int 3), (2, .int lane), (3, .int f), (4, .int n)]) hx hb dX11_read_54 hl (by decide) rfl (fun ls hl => ?_)
          refine lv_iload hx hb dX11_read_56 (lv_at hl 0 rfl) ?_
          refine lv_iconst (v := 2) hx hb dX11_read_58 (by decide) ?_
          refine lv_iload hx hb dX11_read_59 (lv_at hl 7 rfl) ?_
          refine lv_imul hx hb dX11_read_61 ?_
          refine lv_icmp_ge (tgt := 198) hx hb dX11_read_62 (by decide) (fun c45 => ?_) (fun c45 => ?_)
          · skip
            refine lv_aload_n hx hb dX11_read_198 rfl (lv_at hl 3 rfl) ?_
            refine lv_iload hx hb dX11_read_199 (lv_at hl 2 rfl) ?_
            refine va_put (D := (dC, dI)) (ci := 11) (v := .int 0) (ty := .int) (C := RX11) (T := TX11) (N := 35) hx hb hg inG11 tyX11 tyX11_ok nmX11 hown hK.1 hP hD hS 1 rfl rfl 34 (by decide) (hg _ wt_912) (fun _ h9 => h9) rfl (by decide +kernel) rfl rfl (Nat.le_of_ble_eq_true rfl) dX11_read_201 (fun H locs hP hD hS => ?_)
            have hP : va_P (dC, dI) vwCl [(la, .inl (G 0, 4, .inl (upd (upd (upd (upd (fun _ => 0) 0 (-4)) 1 (-4)) 2 (-4)) 3 (-4)))), (h0, .inr (11, [.ref st, .int 0, .int 0, .ref rp, .int 0, .int 0, .int 0, .int 0, .int 0, .int 0, .ref tp, .int 0, .int 0, .int 0, .int 0, .int 0, .int 0, .int 0, .int 0, .ref cu, .ref lt, .ref od, .ref th, .ref be, .ref ln, .int 0, .ref ma, .int 0, .ref ah, .ref bh, .ref ik, .ref la, .ref lg, .ref ce, .int 0])), (st, .inl (G 0, 196, .inl u44))] H := hP
            have hD : va_D A [(la, .inl (G 0, 4, .inl (upd (upd (upd (upd (fun _ => 0) 0 (-4)) 1 (-4)) 2 (-4)) 3 (-4)))), (h0, .inr (11, [.ref st, .int 0, .int 0, .ref rp, .int 0, .int 0, .int 0, .int 0, .int 0, .int 0, .ref tp, .int 0, .int 0, .int 0, .int 0, .int 0, .int 0, .int 0, .int 0, .ref cu, .ref lt, .ref od, .ref th, .ref be, .ref ln, .int 0, .ref ma, .int 0, .ref ah, .ref bh, .ref ik, .ref la, .ref lg, .ref ce, .int 0])), (st, .inl (G 0, 196, .inl u44))] := hD
            refine lv_iload hx hb dX11_read_204 (lv_at hl 1 rfl) ?_
            have hpost : (0 : Int32) = if (0 ≤ (3 : Int32).toInt ∧ (3 : Int32).toInt < 4) ∧ (0 ≤ lane.toInt ∧ lane.toInt ≤ 2) ∧ (0 ≤ n.toInt ∧ n.toInt ≤ 20) then 0 else -1 := by
              have t_b10 := b10
              have t_b14 := b14
              have t_c45 := leI c45
              have : (0 : Int32).toInt = 0 := (by decide)
              first | rfl | ((repeat' split) <;> first | rfl | omega)
            refine W.widen (k := 0) (n := 0) (by omega) (by omega) ?_
            exact W.iret (v := 0) hx hb hr (fun t ht hW => ⟨⟨0, (), rfl, ⟨hpost, trivial⟩, trivial⟩, hS.F ht⟩) hS.2.2 dX11_read_206
          · skip
            refine lv_iload hx hb dX11_read_65 (lv_at hl 2 rfl) ?_
            refine lv_if_ne (tgt := 198) hx hb dX11_read_67 (by decide) (fun c46 => ?_) (fun c46 => ?_)
            · skip
              exact absurd c46 (by decide)
            · skip
              refine lv_aload_n hx hb dX11_read_70 rfl (lv_at hl 3 rfl) ?_
              refine va_get (D := (dC, dI)) (ci := 11) (v := .ref la) (C := RX11) (T := TX11) (N := 35) hx hb hg inG11 hown hK.1 hP 1 rfl rfl 31 (by decide) (hg _ wt_909) (fun _ h9 => h9) rfl dX11_read_71 ?_
              refine lv_iload_n hx hb dX11_read_74 rfl (lv_at hl 4 rfl) ?_
              refine va_iald hx hb hK.1 hP 0 0 rfl rfl (vp_in_iff.mpr ⟨by decide, by decide⟩) dX11_read_75 ?_
              refine lv_cg (y := (-4)) (by rfl) ?_
              refine lv_bipush (v := (-4)) hx hb dX11_read_76 (by decide) ?_
              refine lv_icmp_ne (tgt := 85) hx hb dX11_read_78 (by decide) (fun c47 => ?_) (fun c47 => ?_)
              · skip
                exact absurd c47 (by decide)
              · skip
                refine lv_iconst (v := 1) hx hb dX11_read_81 (by decide) ?_
                refine lv_goto (tgt := 126) hx hb dX11_read_82 (by decide) ?_
                refine lv_istore (lv' := [(5, .int 1), (7, .int 0), (6, .int 0), (0, .ref h0), (1, .int 3), (2, .int lane), (3, .int f), (4, .int n)]) hx hb dX11_read_126 hl (by decide) rfl (fun ls hl => ?_)
                refine lv_iload hx hb dX11_read_128 (lv_at hl 0 rfl) ?_
                refine lv_if_ne (tgt := 192) hx hb dX11_read_130 (by decide) (fun c48 => ?_) (fun c48 => ?_)
                · skip
                  refine lv_iinc (v := 1) (lv' := [(7, .int 1), (5, .int 1), (6, .int 0), (0, .ref h0), (1, .int 3), (2, .int lane), (3, .int f), (4, .int n)]) hx hb dX11_read_192 hl (k := 1) rfl (by decide) (by decide) rfl (fun ls hl => ?_)
                  refine lv_goto (tgt := 56) hx hb dX11_read_195 (by decide) ?_
                  refine lv_iload hx hb dX11_read_56 (lv_at hl 0 rfl) ?_
                  refine lv_iconst (v := 2) hx hb dX11_read_58 (by decide) ?_
                  refine lv_iload hx hb dX11_read_59 (lv_at hl 7 rfl) ?_
                  refine lv_imul hx hb dX11_read_61 ?_
                  refine lv_icmp_ge (tgt := 198) hx hb dX11_read_62 (by decide) (fun c49 => ?_) (fun c49 => ?_)
                  · skip
                    refine lv_aload_n hx hb dX11_read_198 rfl (lv_at hl 3 rfl) ?_
                    refine lv_iload hx hb dX11_read_199 (lv_at hl 1 rfl) ?_
                    refine va_put (D := (dC, dI)) (ci := 11) (v := .int 1) (ty := .int) (C := RX11) (T := TX11) (N := 35) hx hb hg inG11 tyX11 tyX11_ok nmX11 hown hK.1 hP hD hS 1 rfl rfl 34 (by decide) (hg _ wt_912) (fun _ h9 => h9) rfl (by decide +kernel) rfl rfl (Nat.le_of_ble_eq_true rfl) dX11_read_201 (fun H locs hP hD hS => ?_)
                    have hP : va_P (dC, dI) vwCl [(la, .inl (G 0, 4, .inl (upd (upd (upd (upd (fun _ => 0) 0 (-4)) 1 (-4)) 2 (-4)) 3 (-4)))), (h0, .inr (11, [.ref st, .int 0, .int 0, .ref rp, .int 0, .int 0, .int 0, .int 0, .int 0, .int 0, .ref tp, .int 0, .int 0, .int 0, .int 0, .int 0, .int 0, .int 0, .int 0, .ref cu, .ref lt, .ref od, .ref th, .ref be, .ref ln, .int 0, .ref ma, .int 0, .ref ah, .ref bh, .ref ik, .ref la, .ref lg, .ref ce, .int 1])), (st, .inl (G 0, 196, .inl u44))] H := hP
                    have hD : va_D A [(la, .inl (G 0, 4, .inl (upd (upd (upd (upd (fun _ => 0) 0 (-4)) 1 (-4)) 2 (-4)) 3 (-4)))), (h0, .inr (11, [.ref st, .int 0, .int 0, .ref rp, .int 0, .int 0, .int 0, .int 0, .int 0, .int 0, .ref tp, .int 0, .int 0, .int 0, .int 0, .int 0, .int 0, .int 0, .int 0, .ref cu, .ref lt, .ref od, .ref th, .ref be, .ref ln, .int 0, .ref ma, .int 0, .ref ah, .ref bh, .ref ik, .ref la, .ref lg, .ref ce, .int 1])), (st, .inl (G 0, 196, .inl u44))] := hD
                    refine lv_iload hx hb dX11_read_204 (lv_at hl 2 rfl) ?_
                    have hpost : (0 : Int32) = if (0 ≤ (3 : Int32).toInt ∧ (3 : Int32).toInt < 4) ∧ (0 ≤ lane.toInt ∧ lane.toInt ≤ 2) ∧ (0 ≤ n.toInt ∧ n.toInt ≤ 20) then 0 else -1 := by
                      have t_b10 := b10
                      have t_b14 := b14
                      have t_c45 := nleI c45
                      have t_c46 := eqI c46
                      have t_c47 := eqI c47
                      have t_c48 := neI c48
                      have t_c49 := leI c49
                      have : ((-4) : Int32).toInt = -4 := (by decide)
                      have : (0 : Int32).toInt = 0 := (by decide)
                      have : (1 : Int32).toInt = 1 := (by decide)
                      first | rfl | ((repeat' split) <;> first | rfl | omega)
                    refine W.widen (k := 0) (n := 0) (by omega) (by omega) ?_
                    exact W.iret (v := 0) hx hb hr (fun t ht hW => ⟨⟨0, (), rfl, ⟨hpost, trivial⟩, trivial⟩, hS.F ht⟩) hS.2.2 dX11_read_206
                  · skip
                    refine lv_iload hx hb dX11_read_65 (lv_at hl 1 rfl) ?_
                    refine lv_if_ne (tgt := 198) hx hb dX11_read_67 (by decide) (fun c50 => ?_) (fun c50 => ?_)
                    · skip
                      refine lv_aload_n hx hb dX11_read_198 rfl (lv_at hl 3 rfl) ?_
                      refine lv_iload hx hb dX11_read_199 (lv_at hl 1 rfl) ?_
                      refine va_put (D := (dC, dI)) (ci := 11) (v := .int 1) (ty := .int) (C := RX11) (T := TX11) (N := 35) hx hb hg inG11 tyX11 tyX11_ok nmX11 hown hK.1 hP hD hS 1 rfl rfl 34 (by decide) (hg _ wt_912) (fun _ h9 => h9) rfl (by decide +kernel) rfl rfl (Nat.le_of_ble_eq_true rfl) dX11_read_201 (fun H locs hP hD hS => ?_)
                      have hP : va_P (dC, dI) vwCl [(la, .inl (G 0, 4, .inl (upd (upd (upd (upd (fun _ => 0) 0 (-4)) 1 (-4)) 2 (-4)) 3 (-4)))), (h0, .inr (11, [.ref st, .int 0, .int 0, .ref rp, .int 0, .int 0, .int 0, .int 0, .int 0, .int 0, .ref tp, .int 0, .int 0, .int 0, .int 0, .int 0, .int 0, .int 0, .int 0, .ref cu, .ref lt, .ref od, .ref th, .ref be, .ref ln, .int 0, .ref ma, .int 0, .ref ah, .ref bh, .ref ik, .ref la, .ref lg, .ref ce, .int 1])), (st, .inl (G 0, 196, .inl u44))] H := hP
                      have hD : va_D A [(la, .inl (G 0, 4, .inl (upd (upd (upd (upd (fun _ => 0) 0 (-4)) 1 (-4)) 2 (-4)) 3 (-4)))), (h0, .inr (11, [.ref st, .int 0, .int 0, .ref rp, .int 0, .int 0, .int 0, .int 0, .int 0, .int 0, .ref tp, .int 0, .int 0, .int 0, .int 0, .int 0, .int 0, .int 0, .int 0, .ref cu, .ref lt, .ref od, .ref th, .ref be, .ref ln, .int 0, .ref ma, .int 0, .ref ah, .ref bh, .ref ik, .ref la, .ref lg, .ref ce, .int 1])), (st, .inl (G 0, 196, .inl u44))] := hD
                      refine lv_iload hx hb dX11_read_204 (lv_at hl 2 rfl) ?_
                      have hpost : (0 : Int32) = if (0 ≤ (3 : Int32).toInt ∧ (3 : Int32).toInt < 4) ∧ (0 ≤ lane.toInt ∧ lane.toInt ≤ 2) ∧ (0 ≤ n.toInt ∧ n.toInt ≤ 20) then 0 else -1 := by
                        have t_b10 := b10
                        have t_b14 := b14
                        have t_c45 := nleI c45
                        have t_c46 := eqI c46
                        have t_c47 := eqI c47
                        have t_c48 := neI c48
                        have t_c49 := nleI c49
                        have t_c50 := neI c50
                        have : ((-4) : Int32).toInt = -4 := (by decide)
                        have : (0 : Int32).toInt = 0 := (by decide)
                        have : (1 : Int32).toInt = 1 := (by decide)
                        first | rfl | ((repeat' split) <;> first | rfl | omega)
                      refine W.widen (k := 0) (n := 0) (by omega) (by omega) ?_
                      exact W.iret (v := 0) hx hb hr (fun t ht hW => ⟨⟨0, (), rfl, ⟨hpost, trivial⟩, trivial⟩, hS.F ht⟩) hS.2.2 dX11_read_206
                    · skip
                      exact absurd c50 (by decide)
                · skip
                  exact absurd c48 (by decide)
      · skip
        have b51 := if10_n c13
        refine lv_iconst (v := (-1)) hx hb dX11_read_37 (by decide) ?_
        have hpost : ((-1) : Int32) = if (0 ≤ k.toInt ∧ k.toInt < 4) ∧ (0 ≤ lane.toInt ∧ lane.toInt ≤ 2) ∧ (0 ≤ n.toInt ∧ n.toInt ≤ 20) then 0 else -1 := by
          have t_b5 := b5
          have t_b10 := b10
          have t_b51 := b51
          first | rfl | ((repeat' split) <;> first | rfl | omega)
        refine W.widen (k := 0) (n := 0) (by omega) (by omega) ?_
        exact W.iret (v := (-1)) hx hb hr (fun t ht hW => ⟨⟨(-1), (), rfl, ⟨hpost, trivial⟩, trivial⟩, hS.F ht⟩) hS.2.2 dX11_read_38

set_option maxHeartbeats 4000000 in
set_option maxRecDepth 100000 in
theorem c_X11_torn (l : Launch) (dC : Nat → ClassId) (dI : Nat → Nat → Nat) (G : Nat → ClassId) (sz : Nat) (h0 st rp tp cu lt od th be ln ma ah bh ik la lg ce : Nat)    : Met l yX11_torn (Cond.code yX11_torn cX11_torn 1 (some .int) :: GT) ({ frames := 0, cells := 0, slots := 0, locals := 0 } : Room) (PcW [.ref h0] dC dI G [(h0, .inr (11, [.ref st, .int 0, .int 0, .ref rp, .int 0, .int 0, .int 0, .int 0, .int 0, .int 0, .ref tp, .int 0, .int 0, .int 0, .int 0, .int 0, .int 0, .int 0, .int 0, .ref cu, .ref lt, .ref od, .ref th, .ref be, .ref ln, .int 0, .ref ma, .int 0, .ref ah, .ref bh, .ref ik, .ref la, .ref lg, .ref ce, .int 0]))] sz) (va_Qi (fun (r : Int32) (u : Unit) => match u with | _ => (r = 0) ∧ True) (fun _ _ => True) (va_A [(h0, .inr (11, [.ref st, .int 0, .int 0, .ref rp, .int 0, .int 0, .int 0, .int 0, .int 0, .int 0, .ref tp, .int 0, .int 0, .int 0, .int 0, .int 0, .int 0, .int 0, .int 0, .ref cu, .ref lt, .ref od, .ref th, .ref be, .ref ln, .int 0, .ref ma, .int 0, .ref ah, .ref bh, .ref ik, .ref la, .ref lg, .ref ce, .int 0]))] sz)) 0 0 (va_A [(h0, .inr (11, [.ref st, .int 0, .int 0, .ref rp, .int 0, .int 0, .int 0, .int 0, .int 0, .int 0, .ref tp, .int 0, .int 0, .int 0, .int 0, .int 0, .int 0, .int 0, .int 0, .ref cu, .ref lt, .ref od, .ref th, .ref be, .ref ln, .int 0, .ref ma, .int 0, .ref ah, .ref bh, .ref ik, .ref la, .ref lg, .ref ce, .int 0]))] sz) := by
  refine Met.ofW (cc := cX11_torn) (maxL := 1) (ret := (some .int)) (by decide) rfl ?_
  intro p e s m args below meth c s₁ B hml hv
  obtain ⟨rfl, hsz, hP, hK, hD0⟩ := hv
  have hx := B.exec
  have hb := B.bytes
  have hr := B.returns
  have hg : ∀ w ∈ GT, w.before ([.ref h0] : List Value).toArray s = true := fun w h => atoms_spec (ws := Cond.code yX11_torn cX11_torn 1 (some .int) :: GT) B.pre w (List.mem_cons_of_mem _ h)
  have hown : s.vm.findClass RX11 = some m.cls := findClass_of_methodNamed B.named
  have hlocks := B.notSynchronized
  subst hsz
  have hD := hD0.self (sz := s.heap.size)
  generalize hAe : va_A [(h0, .inr (11, [.ref st, .int 0, .int 0, .ref rp, .int 0, .int 0, .int 0, .int 0, .int 0, .int 0, .ref tp, .int 0, .int 0, .int 0, .int 0, .int 0, .int 0, .int 0, .int 0, .ref cu, .ref lt, .ref od, .ref th, .ref be, .ref ln, .int 0, .ref ma, .int 0, .ref ah, .ref bh, .ref ik, .ref la, .ref lg, .ref ce, .int 0]))] s.heap.size = A at hD ⊢
  have hA : ∀ q : Nat, s.heap.size ≤ q → A q := fun q h => by rw [← hAe]; exact Or.inr h
  have hS : va_S A s.heap s.heap [] := va_S.rf
  have hl := lv_entry ([.ref h0]) (n := 1) (Nat.le_of_ble_eq_true rfl)
  rw [lg_entry_eq]
  generalize (lg_sl ([.ref h0]) ++ List.replicate (1 - (lg_sl ([.ref h0])).length) Slot.unset).toArray = ls at hl ⊢
  have hl : lv_has ls 1 [(0, .ref h0)] := hl
  refine lv_aload_n hx hb dX11_torn_0 rfl (lv_at hl 0 rfl) ?_
  refine va_get (D := (dC, dI)) (ci := 11) (v := .int 0) (C := RX11) (T := TX11) (N := 35) hx hb hg inG11 hown hK.1 hP 0 rfl rfl 34 (by decide) (hg _ wt_912) (fun _ h9 => h9) rfl dX11_torn_1 ?_
  have hpost : (0 : Int32) = 0 := by
    first | rfl | ((repeat' split) <;> first | rfl | omega)
  refine W.widen (k := 0) (n := 0) (by omega) (by omega) ?_
  exact W.iret (v := 0) hx hb hr (fun t ht hW => ⟨⟨0, (), rfl, ⟨hpost, trivial⟩, trivial⟩, hS.F ht⟩) hS.2.2 dX11_torn_4

set_option maxHeartbeats 4000000 in
set_option maxRecDepth 100000 in
theorem c_X11_count (l : Launch) (dC : Nat → ClassId) (dI : Nat → Nat → Nat) (G : Nat → ClassId) (sz : Nat) (h0 st rp tp cu lt od th be ln ma ah bh ik la lg ce : Nat) (what : Int32)    : Met l yX11_count (Cond.code yX11_count cX11_count 4 (some .int) :: GT) ({ frames := 0, cells := 0, slots := 0, locals := 0 } : Room) (PcW [.ref h0, .int what] dC dI G [(h0, .inr (11, [.ref st, .int 0, .int 0, .ref rp, .int 0, .int 0, .int 0, .int 0, .int 0, .int 0, .ref tp, .int 0, .int 0, .int 0, .int 0, .int 0, .int 0, .int 0, .int 0, .ref cu, .ref lt, .ref od, .ref th, .ref be, .ref ln, .int 0, .ref ma, .int 0, .ref ah, .ref bh, .ref ik, .ref la, .ref lg, .ref ce, .int 0])), (ik, .inl (G 2, 2, .inl (fun _ => 0))), (la, .inl (G 0, 4, .inl (upd (upd (upd (upd (fun _ => 0) 0 (-4)) 1 (-4)) 2 (-4)) 3 (-4))))] sz) (va_Qi (fun (r : Int32) (u : Unit) => match u with | _ => (r = if what.toInt = 0 then 0 else if what.toInt = 1 then 0 else if what.toInt = 2 then 0 else if what.toInt = 3 then 0 else if what.toInt = 4 then -4 else if what.toInt = 5 then 0 else -1) ∧ True) (fun _ _ => True) (va_A [(h0, .inr (11, [.ref st, .int 0, .int 0, .ref rp, .int 0, .int 0, .int 0, .int 0, .int 0, .int 0, .ref tp, .int 0, .int 0, .int 0, .int 0, .int 0, .int 0, .int 0, .int 0, .ref cu, .ref lt, .ref od, .ref th, .ref be, .ref ln, .int 0, .ref ma, .int 0, .ref ah, .ref bh, .ref ik, .ref la, .ref lg, .ref ce, .int 0])), (ik, .inl (G 2, 2, .inl (fun _ => 0))), (la, .inl (G 0, 4, .inl (upd (upd (upd (upd (fun _ => 0) 0 (-4)) 1 (-4)) 2 (-4)) 3 (-4))))] sz)) 0 0 (va_A [(h0, .inr (11, [.ref st, .int 0, .int 0, .ref rp, .int 0, .int 0, .int 0, .int 0, .int 0, .int 0, .ref tp, .int 0, .int 0, .int 0, .int 0, .int 0, .int 0, .int 0, .int 0, .ref cu, .ref lt, .ref od, .ref th, .ref be, .ref ln, .int 0, .ref ma, .int 0, .ref ah, .ref bh, .ref ik, .ref la, .ref lg, .ref ce, .int 0])), (ik, .inl (G 2, 2, .inl (fun _ => 0))), (la, .inl (G 0, 4, .inl (upd (upd (upd (upd (fun _ => 0) 0 (-4)) 1 (-4)) 2 (-4)) 3 (-4))))] sz) := by
  refine Met.ofW (cc := cX11_count) (maxL := 4) (ret := (some .int)) (by decide) rfl ?_
  intro p e s m args below meth c s₁ B hml hv
  obtain ⟨rfl, hsz, hP, hK, hD0⟩ := hv
  have hx := B.exec
  have hb := B.bytes
  have hr := B.returns
  have hg : ∀ w ∈ GT, w.before ([.ref h0, .int what] : List Value).toArray s = true := fun w h => atoms_spec (ws := Cond.code yX11_count cX11_count 4 (some .int) :: GT) B.pre w (List.mem_cons_of_mem _ h)
  have hown : s.vm.findClass RX11 = some m.cls := findClass_of_methodNamed B.named
  have hlocks := B.notSynchronized
  subst hsz
  have hD := hD0.self (sz := s.heap.size)
  generalize hAe : va_A [(h0, .inr (11, [.ref st, .int 0, .int 0, .ref rp, .int 0, .int 0, .int 0, .int 0, .int 0, .int 0, .ref tp, .int 0, .int 0, .int 0, .int 0, .int 0, .int 0, .int 0, .int 0, .ref cu, .ref lt, .ref od, .ref th, .ref be, .ref ln, .int 0, .ref ma, .int 0, .ref ah, .ref bh, .ref ik, .ref la, .ref lg, .ref ce, .int 0])), (ik, .inl (G 2, 2, .inl (fun _ => 0))), (la, .inl (G 0, 4, .inl (upd (upd (upd (upd (fun _ => 0) 0 (-4)) 1 (-4)) 2 (-4)) 3 (-4))))] s.heap.size = A at hD ⊢
  have hA : ∀ q : Nat, s.heap.size ≤ q → A q := fun q h => by rw [← hAe]; exact Or.inr h
  have hS : va_S A s.heap s.heap [] := va_S.rf
  have hl := lv_entry ([.ref h0, .int what]) (n := 4) (Nat.le_of_ble_eq_true rfl)
  rw [lg_entry_eq]
  generalize (lg_sl ([.ref h0, .int what]) ++ List.replicate (4 - (lg_sl ([.ref h0, .int what])).length) Slot.unset).toArray = ls at hl ⊢
  have hl : lv_has ls 4 [(0, .ref h0), (1, .int what)] := hl
  refine lv_iconst (v := 0) hx hb dX11_count_0 (by decide) ?_
  refine lv_istore_n (lv' := [(2, .int 0), (0, .ref h0), (1, .int what)]) hx hb dX11_count_1 rfl hl (by decide) rfl (fun ls hl => ?_)
  refine lv_iconst (v := 1) hx hb dX11_count_2 (by decide) ?_
  refine lv_istore_n (lv' := [(3, .int 1), (2, .int 0), (0, .ref h0), (1, .int what)]) hx hb dX11_count_3 rfl hl (by decide) rfl (fun ls hl => ?_)
  refine lv_iload_n hx hb dX11_count_4 rfl (lv_at hl 0 rfl) ?_
  refine lv_aload_n hx hb dX11_count_5 rfl (lv_at hl 2 rfl) ?_
  refine va_get (D := (dC, dI)) (ci := 11) (v := .int 0) (C := RX11) (T := TX11) (N := 35) hx hb hg inG11 hown hK.1 hP 0 rfl rfl 1 (by decide) (hg _ wt_879) (fun _ h9 => h9) rfl dX11_count_6 ?_
  refine lv_icmp_ge (tgt := 49) hx hb dX11_count_9 (by decide) (fun c1 => ?_) (fun c1 => ?_)
  · skip
    refine lv_iload_n hx hb dX11_count_49 rfl (lv_at hl 3 rfl) ?_
    by_cases c2 : what = 0
    · skip
      refine lv_cg c2 ?_
      refine lv_tableIn (tgt := 88) hx hb dX11_count_50 (by decide) (by decide) rfl (by decide) ?_
      refine lv_aload_n hx hb dX11_count_88 rfl (lv_at hl 2 rfl) ?_
      refine va_get (D := (dC, dI)) (ci := 11) (v := .int 0) (C := RX11) (T := TX11) (N := 35) hx hb hg inG11 hown hK.1 hP 0 rfl rfl 25 (by decide) (hg _ wt_903) (fun _ h9 => h9) rfl dX11_count_89 ?_
      have hpost : (0 : Int32) = if what.toInt = 0 then 0 else if what.toInt = 1 then 0 else if what.toInt = 2 then 0 else if what.toInt = 3 then 0 else if what.toInt = 4 then -4 else if what.toInt = 5 then 0 else -1 := by
        have t_c1 := leI c1
        have t_c2 := eqI c2
        have : (0 : Int32).toInt = 0 := (by decide)
        have : (1 : Int32).toInt = 1 := (by decide)
        first | rfl | ((repeat' split) <;> first | rfl | omega)
      refine W.widen (k := 0) (n := 0) (by omega) (by omega) ?_
      exact W.iret (v := 0) hx hb hr (fun t ht hW => ⟨⟨0, (), rfl, ⟨hpost, trivial⟩, trivial⟩, hS.F ht⟩) hS.2.2 dX11_count_92
    · skip
      by_cases c3 : what = 1
      · skip
        refine lv_cg c3 ?_
        refine lv_tableIn (tgt := 93) hx hb dX11_count_50 (by decide) (by decide) rfl (by decide) ?_
        refine lv_aload_n hx hb dX11_count_93 rfl (lv_at hl 2 rfl) ?_
        refine va_get (D := (dC, dI)) (ci := 11) (v := .int 0) (C := RX11) (T := TX11) (N := 35) hx hb hg inG11 hown hK.1 hP 0 rfl rfl 27 (by decide) (hg _ wt_905) (fun _ h9 => h9) rfl dX11_count_94 ?_
        have hpost : (0 : Int32) = if what.toInt = 0 then 0 else if what.toInt = 1 then 0 else if what.toInt = 2 then 0 else if what.toInt = 3 then 0 else if what.toInt = 4 then -4 else if what.toInt = 5 then 0 else -1 := by
          have t_c1 := leI c1
          have t_c2 := neI c2
          have t_c3 := eqI c3
          have : (0 : Int32).toInt = 0 := (by decide)
          have : (1 : Int32).toInt = 1 := (by decide)
          first | rfl | ((repeat' split) <;> first | rfl | omega)
        refine W.widen (k := 0) (n := 0) (by omega) (by omega) ?_
        exact W.iret (v := 0) hx hb hr (fun t ht hW => ⟨⟨0, (), rfl, ⟨hpost, trivial⟩, trivial⟩, hS.F ht⟩) hS.2.2 dX11_count_97
      · skip
        by_cases c4 : what = 2
        · skip
          refine lv_cg c4 ?_
          refine lv_tableIn (tgt := 98) hx hb dX11_count_50 (by decide) (by decide) rfl (by decide) ?_
          refine lv_aload_n hx hb dX11_count_98 rfl (lv_at hl 2 rfl) ?_
          refine va_get (D := (dC, dI)) (ci := 11) (v := .ref ik) (C := RX11) (T := TX11) (N := 35) hx hb hg inG11 hown hK.1 hP 0 rfl rfl 30 (by decide) (hg _ wt_908) (fun _ h9 => h9) rfl dX11_count_99 ?_
          refine lv_iconst (v := 0) hx hb dX11_count_102 (by decide) ?_
          refine va_zald hx hb hK.1 hP 1 2 rfl rfl (vp_in_iff.mpr ⟨by decide, by decide⟩) dX11_count_103 ?_
          refine lv_cg (y := 0) (by rfl) ?_
          refine lv_if_eq (tgt := 111) hx hb dX11_count_104 (by decide) (fun c5 => ?_) (fun c5 => ?_)
          · skip
            refine lv_iconst (v := 0) hx hb dX11_count_111 (by decide) ?_
            refine lv_aload_n hx hb dX11_count_112 rfl (lv_at hl 2 rfl) ?_
            refine va_get (D := (dC, dI)) (ci := 11) (v := .ref ik) (C := RX11) (T := TX11) (N := 35) hx hb hg inG11 hown hK.1 hP 0 rfl rfl 30 (by decide) (hg _ wt_908) (fun _ h9 => h9) rfl dX11_count_113 ?_
            refine lv_iconst (v := 1) hx hb dX11_count_116 (by decide) ?_
            refine va_zald hx hb hK.1 hP 1 2 rfl rfl (vp_in_iff.mpr ⟨by decide, by decide⟩) dX11_count_117 ?_
            refine lv_cg (y := 0) (by rfl) ?_
            refine lv_if_eq (tgt := 125) hx hb dX11_count_118 (by decide) (fun c6 => ?_) (fun c6 => ?_)
            · skip
              refine lv_iconst (v := 0) hx hb dX11_count_125 (by decide) ?_
              refine lv_iadd hx hb dX11_count_126 ?_
              refine lv_cg (y := 0) (by decide) ?_
              have hpost : (0 : Int32) = if what.toInt = 0 then 0 else if what.toInt = 1 then 0 else if what.toInt = 2 then 0 else if what.toInt = 3 then 0 else if what.toInt = 4 then -4 else if what.toInt = 5 then 0 else -1 := by
                have t_c1 := leI c1
                have t_c2 := neI c2
                have t_c3 := neI c3
                have t_c4 := eqI c4
                have t_c5 := eqI c5
                have t_c6 := eqI c6
                have : (0 : Int32).toInt = 0 := (by decide)
                have : (1 : Int32).toInt = 1 := (by decide)
                have : (2 : Int32).toInt = 2 := (by decide)
                first | rfl | ((repeat' split) <;> first | rfl | omega)
              refine W.widen (k := 0) (n := 0) (by omega) (by omega) ?_
              exact W.iret (v := 0) hx hb hr (fun t ht hW => ⟨⟨0, (), rfl, ⟨hpost, trivial⟩, trivial⟩, hS.F ht⟩) hS.2.2 dX11_count_127
            · skip
              exact absurd c6 (by decide)
          · skip
            exact absurd c5 (by decide)
        · skip
          by_cases c7 : what = 3
          · skip
            refine lv_cg c7 ?_
            refine lv_tableIn (tgt := 128) hx hb dX11_count_50 (by decide) (by decide) rfl (by decide) ?_
            refine lv_aload_n hx hb dX11_count_128 rfl (lv_at hl 2 rfl) ?_
            refine va_get (D := (dC, dI)) (ci := 11) (v := .int 0) (C := RX11) (T := TX11) (N := 35) hx hb hg inG11 hown hK.1 hP 0 rfl rfl 11 (by decide) (hg _ wt_889) (fun _ h9 => h9) rfl dX11_count_129 ?_
            have hpost : (0 : Int32) = if what.toInt = 0 then 0 else if what.toInt = 1 then 0 else if what.toInt = 2 then 0 else if what.toInt = 3 then 0 else if what.toInt = 4 then -4 else if what.toInt = 5 then 0 else -1 := by
              have t_c1 := leI c1
              have t_c2 := neI c2
              have t_c3 := neI c3
              have t_c4 := neI c4
              have t_c7 := eqI c7
              have : (0 : Int32).toInt = 0 := (by decide)
              have : (1 : Int32).toInt = 1 := (by decide)
              have : (2 : Int32).toInt = 2 := (by decide)
              have : (3 : Int32).toInt = 3 := (by decide)
              first | rfl | ((repeat' split) <;> first | rfl | omega)
            refine W.widen (k := 0) (n := 0) (by omega) (by omega) ?_
            exact W.iret (v := 0) hx hb hr (fun t ht hW => ⟨⟨0, (), rfl, ⟨hpost, trivial⟩, trivial⟩, hS.F ht⟩) hS.2.2 dX11_count_132
          · skip
            by_cases c8 : what = 4
            · skip
              refine lv_cg c8 ?_
              refine lv_tableIn (tgt := 133) hx hb dX11_count_50 (by decide) (by decide) rfl (by decide) ?_
              refine lv_aload_n hx hb dX11_count_133 rfl (lv_at hl 2 rfl) ?_
              refine va_get (D := (dC, dI)) (ci := 11) (v := .ref la) (C := RX11) (T := TX11) (N := 35) hx hb hg inG11 hown hK.1 hP 0 rfl rfl 31 (by decide) (hg _ wt_909) (fun _ h9 => h9) rfl dX11_count_134 ?_
              refine lv_iconst (v := 0) hx hb dX11_count_137 (by decide) ?_
              refine va_iald hx hb hK.1 hP 2 0 rfl rfl (vp_in_iff.mpr ⟨by decide, by decide⟩) dX11_count_138 ?_
              refine lv_cg (y := (-4)) (by rfl) ?_
              refine lv_bipush (v := (-4)) hx hb dX11_count_139 (by decide) ?_
              refine lv_icmp_ne (tgt := 149) hx hb dX11_count_141 (by decide) (fun c9 => ?_) (fun c9 => ?_)
              · skip
                exact absurd c9 (by decide)
              · skip
                refine lv_bipush (v := (-4)) hx hb dX11_count_144 (by decide) ?_
                refine lv_goto (tgt := 155) hx hb dX11_count_146 (by decide) ?_
                have hpost : ((-4) : Int32) = if what.toInt = 0 then 0 else if what.toInt = 1 then 0 else if what.toInt = 2 then 0 else if what.toInt = 3 then 0 else if what.toInt = 4 then -4 else if what.toInt = 5 then 0 else -1 := by
                  have t_c1 := leI c1
                  have t_c2 := neI c2
                  have t_c3 := neI c3
                  have t_c4 := neI c4
                  have t_c7 := neI c7
                  have t_c8 := eqI c8
                  have t_c9 := eqI c9
                  have : ((-4) : Int32).toInt = -4 := (by decide)
                  have : (0 : Int32).toInt = 0 := (by decide)
                  have : (1 : Int32).toInt = 1 := (by decide)
                  have : (2 : Int32).toInt = 2 := (by decide)
                  have : (3 : Int32).toInt = 3 := (by decide)
                  have : (4 : Int32).toInt = 4 := (by decide)
                  first | rfl | ((repeat' split) <;> first | rfl | omega)
                refine W.widen (k := 0) (n := 0) (by omega) (by omega) ?_
                exact W.iret (v := (-4)) hx hb hr (fun t ht hW => ⟨⟨(-4), (), rfl, ⟨hpost, trivial⟩, trivial⟩, hS.F ht⟩) hS.2.2 dX11_count_155
            · skip
              by_cases c10 : what = 5
              · skip
                refine lv_cg c10 ?_
                refine lv_tableIn (tgt := 156) hx hb dX11_count_50 (by decide) (by decide) rfl (by decide) ?_
                refine lv_iload_n hx hb dX11_count_156 rfl (lv_at hl 1 rfl) ?_
                have hpost : (0 : Int32) = if what.toInt = 0 then 0 else if what.toInt = 1 then 0 else if what.toInt = 2 then 0 else if what.toInt = 3 then 0 else if what.toInt = 4 then -4 else if what.toInt = 5 then 0 else -1 := by
                  have t_c1 := leI c1
                  have t_c2 := neI c2
                  have t_c3 := neI c3
                  have t_c4 := neI c4
                  have t_c7 := neI c7
                  have t_c8 := neI c8
                  have t_c10 := eqI c10
                  have : (0 : Int32).toInt = 0 := (by decide)
                  have : (1 : Int32).toInt = 1 := (by decide)
                  have : (2 : Int32).toInt = 2 := (by decide)
                  have : (3 : Int32).toInt = 3 := (by decide)
                  have : (4 : Int32).toInt = 4 := (by decide)
                  have : (5 : Int32).toInt = 5 := (by decide)
                  first | rfl | ((repeat' split) <;> first | rfl | omega)
                refine W.widen (k := 0) (n := 0) (by omega) (by omega) ?_
                exact W.iret (v := 0) hx hb hr (fun t ht hW => ⟨⟨0, (), rfl, ⟨hpost, trivial⟩, trivial⟩, hS.F ht⟩) hS.2.2 dX11_count_157
              · skip
                refine lv_tableOut (tgt := 158) hx hb dX11_count_50 (by have t_c1 := leI c1; have t_c2 := neI c2; have t_c3 := neI c3; have t_c4 := neI c4; have t_c7 := neI c7; have t_c8 := neI c8; have t_c10 := neI c10; have : (0 : Int32).toInt = 0 := (by decide); have : (1 : Int32).toInt = 1 := (by decide); have : (2 : Int32).toInt = 2 := (by decide); have : (3 : Int32).toInt = 3 := (by decide); have : (4 : Int32).toInt = 4 := (by decide); have : (5 : Int32).toInt = 5 := (by decide); omega) (by decide) ?_
                refine lv_iconst (v := (-1)) hx hb dX11_count_158 (by decide) ?_
                have hpost : ((-1) : Int32) = if what.toInt = 0 then 0 else if what.toInt = 1 then 0 else if what.toInt = 2 then 0 else if what.toInt = 3 then 0 else if what.toInt = 4 then -4 else if what.toInt = 5 then 0 else -1 := by
                  have t_c1 := leI c1
                  have t_c2 := neI c2
                  have t_c3 := neI c3
                  have t_c4 := neI c4
                  have t_c7 := neI c7
                  have t_c8 := neI c8
                  have t_c10 := neI c10
                  have : (0 : Int32).toInt = 0 := (by decide)
                  have : (1 : Int32).toInt = 1 := (by decide)
                  have : (2 : Int32).toInt = 2 := (by decide)
                  have : (3 : Int32).toInt = 3 := (by decide)
                  have : (4 : Int32).toInt = 4 := (by decide)
                  have : (5 : Int32).toInt = 5 := (by decide)
                  first | rfl | ((repeat' split) <;> first | rfl | omega)
                refine W.widen (k := 0) (n := 0) (by omega) (by omega) ?_
                exact W.iret (v := (-1)) hx hb hr (fun t ht hW => ⟨⟨(-1), (), rfl, ⟨hpost, trivial⟩, trivial⟩, hS.F ht⟩) hS.2.2 dX11_count_159
  · skip
    exact absurd c1 (by decide)
