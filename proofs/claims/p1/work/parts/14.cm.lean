set_option maxHeartbeats 4000000 in
set_option maxRecDepth 100000 in
theorem c_X11_in (l : Launch) (dC : Nat → ClassId) (dI : Nat → Nat → Nat) (G : Nat → ClassId) (sz : Nat)  (v lo hi : Int64)    : Met l yX11_in (Cond.code yX11_in cX11_in 6 (some .boolean) :: GT) ({ frames := 0, cells := 0, slots := 0, locals := 0 } : Room) (PcR [.long v, .long lo, .long hi] dC dI G [] sz) (va_Qi (fun (r : Int32) (u : Unit) => match u with | _ => (r = if lo.toInt ≤ v.toInt ∧ v.toInt ≤ hi.toInt then 1 else 0) ∧ True) (fun _ _ => True) (fun q : Nat => sz ≤ q)) 0 0 (fun q : Nat => sz ≤ q) := by
  refine Met.ofW (cc := cX11_in) (maxL := 6) (ret := (some .boolean)) (by decide) rfl ?_
  intro p e s m args below meth c s₁ B hml hv
  obtain ⟨rfl, hsz, hP, hK⟩ := hv
  have hx := B.exec
  have hb := B.bytes
  have hr := B.returns
  have hg : ∀ w ∈ GT, w.before ([.long v, .long lo, .long hi] : List Value).toArray s = true := fun w h => atoms_spec (ws := Cond.code yX11_in cX11_in 6 (some .boolean) :: GT) B.pre w (List.mem_cons_of_mem _ h)
  have hown : s.vm.findClass RX11 = some m.cls := findClass_of_methodNamed B.named
  have hlocks := B.notSynchronized
  subst hsz
  have hA : ∀ q : Nat, s.heap.size ≤ q → (fun q : Nat => s.heap.size ≤ q) q := fun _ h => h
  have hS : va_S (fun q : Nat => s.heap.size ≤ q) s.heap s.heap [] := va_S.rf
  have hl := lv_entry ([.long v, .long lo, .long hi]) (n := 6) (Nat.le_of_ble_eq_true rfl)
  rw [lg_entry_eq]
  generalize (lg_sl ([.long v, .long lo, .long hi]) ++ List.replicate (6 - (lg_sl ([.long v, .long lo, .long hi])).length) Slot.unset).toArray = ls at hl ⊢
  have hl : lv_has ls 6 [(0, .long v), (2, .long lo), (4, .long hi)] := hl
  refine lv_lload_n hx hb dX11_in_0 rfl (lv_at hl 0 rfl) ?_
  refine lv_lload_n hx hb dX11_in_1 rfl (lv_at hl 1 rfl) ?_
  refine W.lcmp hx hb dX11_in_2 ?_
  refine lv_if_lt (tgt := 17) hx hb dX11_in_3 (by decide) (fun c1 => ?_) (fun c1 => ?_)
  · skip
    refine lv_iconst (v := 0) hx hb dX11_in_17 (by decide) ?_
    have hpost : (0 : Int32) = if lo.toInt ≤ v.toInt ∧ v.toInt ≤ hi.toInt then 1 else 0 := by
      have t_c1 := lcm_lt_t c1
      first | rfl | ((repeat' split) <;> first | rfl | omega)
    refine W.widen (k := 0) (n := 0) (by omega) (by omega) ?_
    exact W.zret (v := 0) hx hb hr (by first | rfl | decide | exact rfl) (fun t ht hW => ⟨⟨0, (), rfl, ⟨hpost, trivial⟩, trivial⟩, hS.F ht⟩) hS.2.2 dX11_in_18
  · skip
    refine lv_lload_n hx hb dX11_in_6 rfl (lv_at hl 0 rfl) ?_
    refine lv_lload hx hb dX11_in_7 (lv_at hl 2 rfl) ?_
    refine W.lcmp hx hb dX11_in_9 ?_
    refine lv_if_gt (tgt := 17) hx hb dX11_in_10 (by decide) (fun c2 => ?_) (fun c2 => ?_)
    · skip
      refine lv_iconst (v := 0) hx hb dX11_in_17 (by decide) ?_
      have hpost : (0 : Int32) = if lo.toInt ≤ v.toInt ∧ v.toInt ≤ hi.toInt then 1 else 0 := by
        have t_c1 := lcm_lt_f c1
        have t_c2 := lcm_gt_t c2
        first | rfl | ((repeat' split) <;> first | rfl | omega)
      refine W.widen (k := 0) (n := 0) (by omega) (by omega) ?_
      exact W.zret (v := 0) hx hb hr (by first | rfl | decide | exact rfl) (fun t ht hW => ⟨⟨0, (), rfl, ⟨hpost, trivial⟩, trivial⟩, hS.F ht⟩) hS.2.2 dX11_in_18
    · skip
      refine lv_iconst (v := 1) hx hb dX11_in_13 (by decide) ?_
      refine lv_goto (tgt := 18) hx hb dX11_in_14 (by decide) ?_
      have hpost : (1 : Int32) = if lo.toInt ≤ v.toInt ∧ v.toInt ≤ hi.toInt then 1 else 0 := by
        have t_c1 := lcm_lt_f c1
        have t_c2 := lcm_gt_f c2
        first | rfl | ((repeat' split) <;> first | rfl | omega)
      refine W.widen (k := 0) (n := 0) (by omega) (by omega) ?_
      exact W.zret (v := 1) hx hb hr (by first | rfl | decide | exact rfl) (fun t ht hW => ⟨⟨1, (), rfl, ⟨hpost, trivial⟩, trivial⟩, hS.F ht⟩) hS.2.2 dX11_in_18

set_option maxHeartbeats 4000000 in
set_option maxRecDepth 100000 in
theorem c_X11_isStretch (l : Launch) (dC : Nat → ClassId) (dI : Nat → Nat → Nat) (G : Nat → ClassId) (sz : Nat) (h0 st rp tp cu lt od th be ln ma ah bh ik la lg ce : Nat) (i : Int32)    : Met l yX11_isStretch (Cond.code yX11_isStretch cX11_isStretch 2 (some .boolean) :: GT) ({ frames := 1, cells := 0, slots := 0, locals := 25 } : Room) (PcR [.ref h0, .int i] dC dI G [(h0, .inr (11, [.ref st, .int 0, .int 0, .ref rp, .int 0, .int 0, .int 0, .int 0, .int 0, .int 0, .ref tp, .int 0, .int 0, .int 0, .int 0, .int 0, .int 0, .int 0, .int 0, .ref cu, .ref lt, .ref od, .ref th, .ref be, .ref ln, .int 0, .ref ma, .int 0, .ref ah, .ref bh, .ref ik, .ref la, .ref lg, .ref ce, .int 0]))] sz) (va_Qi (fun (r : Int32) (u : Unit) => match u with | _ => (r = 0) ∧ True) (fun _ _ => True) (fun q : Nat => sz ≤ q)) 0 0 (fun q : Nat => sz ≤ q) := by
  refine Met.ofW (cc := cX11_isStretch) (maxL := 2) (ret := (some .boolean)) (by decide) rfl ?_
  intro p e s m args below meth c s₁ B hml hv
  obtain ⟨rfl, hsz, hP, hK⟩ := hv
  have hx := B.exec
  have hb := B.bytes
  have hr := B.returns
  have hg : ∀ w ∈ GT, w.before ([.ref h0, .int i] : List Value).toArray s = true := fun w h => atoms_spec (ws := Cond.code yX11_isStretch cX11_isStretch 2 (some .boolean) :: GT) B.pre w (List.mem_cons_of_mem _ h)
  have hown : s.vm.findClass RX11 = some m.cls := findClass_of_methodNamed B.named
  have hlocks := B.notSynchronized
  subst hsz
  have hA : ∀ q : Nat, s.heap.size ≤ q → (fun q : Nat => s.heap.size ≤ q) q := fun _ h => h
  have hS : va_S (fun q : Nat => s.heap.size ≤ q) s.heap s.heap [] := va_S.rf
  have hl := lv_entry ([.ref h0, .int i]) (n := 2) (Nat.le_of_ble_eq_true rfl)
  rw [lg_entry_eq]
  generalize (lg_sl ([.ref h0, .int i]) ++ List.replicate (2 - (lg_sl ([.ref h0, .int i])).length) Slot.unset).toArray = ls at hl ⊢
  have hl : lv_has ls 2 [(0, .ref h0), (1, .int i)] := hl
  refine lv_iload_n hx hb dX11_isStretch_0 rfl (lv_at hl 1 rfl) ?_
  refine lv_i2l (v := i.toInt64) hx hb dX11_isStretch_1 rfl ?_
  refine lv_lconst (v := 0) hx hb dX11_isStretch_2 (by decide) ?_
  refine lv_aload_n hx hb dX11_isStretch_3 rfl (lv_at hl 0 rfl) ?_
  refine va_get (D := (dC, dI)) (ci := 11) (v := .int 0) (C := RX11) (T := TX11) (N := 35) hx hb hg inG11 hown hK.1 hP 0 rfl rfl 1 (by decide) (hg _ wt_879) (fun _ h9 => h9) rfl dX11_isStretch_4 ?_
  refine lv_iconst (v := 1) hx hb dX11_isStretch_7 (by decide) ?_
  refine lv_isub hx hb dX11_isStretch_8 ?_
  refine lv_cg (y := (-1)) (by decide) ?_
  refine lv_i2l (v := (-1)) hx hb dX11_isStretch_9 (by decide) ?_
  have hPc := hP.sub (ws' := []) [] rfl
  refine va_calli (va_runS (As := [.long i.toInt64, .long 0, .long (-1)]) (rest := []) ⟨hx, hb, hml, hown, hg⟩ (c_X11_in l dC dI G _ i.toInt64 0 (-1) ) (kwS hg mfX11_in wt_992 ⟨Nat.le_of_ble_eq_true rfl, Nat.le_of_ble_eq_true rfl⟩) (preSR hK hPc) rfl rfl hl.1 rfl (lv_room (Nat.le_of_ble_eq_true rfl)) dX11_isStretch_10 ⟨Nat.le_of_ble_eq_true rfl, Nat.le_of_ble_eq_true rfl⟩) hS (fun q h1 h2 => absurd h2 (Nat.not_le.mpr h1)) (fun q h => hA q (Nat.le_trans hS.1 h)) (fun r1 ur1 t H1 locs ht hvm w2 hB hz1 hk1 hS => ?_)
  have hP := keepR hP hk1
  obtain ⟨w2, w2x⟩ := w2
  try simp only [l_ii, show (0 : Int64).toInt = 0 from by decide, show ((-1) : Int64).toInt = -1 from by decide] at w2
  have w2 : r1 = 0 := w2.trans (if_neg (by omega))
  subst w2
  have hpost : (0 : Int32) = 0 := by
    first | rfl | ((repeat' split) <;> first | rfl | omega)
  refine W.widen (k := 0) (n := 0) (by omega) (by omega) ?_
  exact W.zret (v := 0) hx hb hr (by first | rfl | decide | exact rfl) (fun t ht hW => ⟨⟨0, (), rfl, ⟨hpost, trivial⟩, trivial⟩, hS.F ht⟩) hS.2.2 dX11_isStretch_13

set_option maxHeartbeats 4000000 in
set_option maxRecDepth 100000 in
theorem c_X11_isBearer (l : Launch) (dC : Nat → ClassId) (dI : Nat → Nat → Nat) (G : Nat → ClassId) (sz : Nat) (h0 st rp tp cu lt od th be ln ma ah bh ik la lg ce : Nat) (i : Int32)    : Met l yX11_isBearer (Cond.code yX11_isBearer cX11_isBearer 2 (some .boolean) :: GT) ({ frames := 1, cells := 0, slots := 0, locals := 25 } : Room) (PcR [.ref h0, .int i] dC dI G [(h0, .inr (11, [.ref st, .int 0, .int 0, .ref rp, .int 0, .int 0, .int 0, .int 0, .int 0, .int 0, .ref tp, .int 0, .int 0, .int 0, .int 0, .int 0, .int 0, .int 0, .int 0, .ref cu, .ref lt, .ref od, .ref th, .ref be, .ref ln, .int 0, .ref ma, .int 0, .ref ah, .ref bh, .ref ik, .ref la, .ref lg, .ref ce, .int 0]))] sz) (va_Qi (fun (r : Int32) (u : Unit) => match u with | _ => (r = 0) ∧ True) (fun _ _ => True) (fun q : Nat => sz ≤ q)) 0 0 (fun q : Nat => sz ≤ q) := by
  refine Met.ofW (cc := cX11_isBearer) (maxL := 2) (ret := (some .boolean)) (by decide) rfl ?_
  intro p e s m args below meth c s₁ B hml hv
  obtain ⟨rfl, hsz, hP, hK⟩ := hv
  have hx := B.exec
  have hb := B.bytes
  have hr := B.returns
  have hg : ∀ w ∈ GT, w.before ([.ref h0, .int i] : List Value).toArray s = true := fun w h => atoms_spec (ws := Cond.code yX11_isBearer cX11_isBearer 2 (some .boolean) :: GT) B.pre w (List.mem_cons_of_mem _ h)
  have hown : s.vm.findClass RX11 = some m.cls := findClass_of_methodNamed B.named
  have hlocks := B.notSynchronized
  subst hsz
  have hA : ∀ q : Nat, s.heap.size ≤ q → (fun q : Nat => s.heap.size ≤ q) q := fun _ h => h
  have hS : va_S (fun q : Nat => s.heap.size ≤ q) s.heap s.heap [] := va_S.rf
  have hl := lv_entry ([.ref h0, .int i]) (n := 2) (Nat.le_of_ble_eq_true rfl)
  rw [lg_entry_eq]
  generalize (lg_sl ([.ref h0, .int i]) ++ List.replicate (2 - (lg_sl ([.ref h0, .int i])).length) Slot.unset).toArray = ls at hl ⊢
  have hl : lv_has ls 2 [(0, .ref h0), (1, .int i)] := hl
  refine lv_iload_n hx hb dX11_isBearer_0 rfl (lv_at hl 1 rfl) ?_
  refine lv_i2l (v := i.toInt64) hx hb dX11_isBearer_1 rfl ?_
  refine lv_lconst (v := 0) hx hb dX11_isBearer_2 (by decide) ?_
  refine lv_aload_n hx hb dX11_isBearer_3 rfl (lv_at hl 0 rfl) ?_
  refine va_get (D := (dC, dI)) (ci := 11) (v := .int 0) (C := RX11) (T := TX11) (N := 35) hx hb hg inG11 hown hK.1 hP 0 rfl rfl 2 (by decide) (hg _ wt_880) (fun _ h9 => h9) rfl dX11_isBearer_4 ?_
  refine lv_iconst (v := 1) hx hb dX11_isBearer_7 (by decide) ?_
  refine lv_isub hx hb dX11_isBearer_8 ?_
  refine lv_cg (y := (-1)) (by decide) ?_
  refine lv_i2l (v := (-1)) hx hb dX11_isBearer_9 (by decide) ?_
  have hPc := hP.sub (ws' := []) [] rfl
  refine va_calli (va_runS (As := [.long i.toInt64, .long 0, .long (-1)]) (rest := []) ⟨hx, hb, hml, hown, hg⟩ (c_X11_in l dC dI G _ i.toInt64 0 (-1) ) (kwS hg mfX11_in wt_992 ⟨Nat.le_of_ble_eq_true rfl, Nat.le_of_ble_eq_true rfl⟩) (preSR hK hPc) rfl rfl hl.1 rfl (lv_room (Nat.le_of_ble_eq_true rfl)) dX11_isBearer_10 ⟨Nat.le_of_ble_eq_true rfl, Nat.le_of_ble_eq_true rfl⟩) hS (fun q h1 h2 => absurd h2 (Nat.not_le.mpr h1)) (fun q h => hA q (Nat.le_trans hS.1 h)) (fun r1 ur1 t H1 locs ht hvm w2 hB hz1 hk1 hS => ?_)
  have hP := keepR hP hk1
  obtain ⟨w2, w2x⟩ := w2
  try simp only [l_ii, show (0 : Int64).toInt = 0 from by decide, show ((-1) : Int64).toInt = -1 from by decide] at w2
  have w2 : r1 = 0 := w2.trans (if_neg (by omega))
  subst w2
  have hpost : (0 : Int32) = 0 := by
    first | rfl | ((repeat' split) <;> first | rfl | omega)
  refine W.widen (k := 0) (n := 0) (by omega) (by omega) ?_
  exact W.zret (v := 0) hx hb hr (by first | rfl | decide | exact rfl) (fun t ht hW => ⟨⟨0, (), rfl, ⟨hpost, trivial⟩, trivial⟩, hS.F ht⟩) hS.2.2 dX11_isBearer_13

set_option maxHeartbeats 4000000 in
set_option maxRecDepth 100000 in
theorem c_X11_startNow (l : Launch) (dC : Nat → ClassId) (dI : Nat → Nat → Nat) (G : Nat → ClassId) (sz : Nat) (h0 st rp tp cu lt od th be ln ma ah bh ik la lg ce : Nat)    : Met l yX11_startNow (Cond.code yX11_startNow cX11_startNow 1 (some .int) :: GT) ({ frames := 0, cells := 0, slots := 0, locals := 0 } : Room) (PcR [.ref h0] dC dI G [(h0, .inr (11, [.ref st, .int 0, .int 0, .ref rp, .int 0, .int 0, .int 0, .int 0, .int 0, .int 0, .ref tp, .int 0, .int 0, .int 0, .int 0, .int 0, .int 0, .int 0, .int 0, .ref cu, .ref lt, .ref od, .ref th, .ref be, .ref ln, .int 0, .ref ma, .int 0, .ref ah, .ref bh, .ref ik, .ref la, .ref lg, .ref ce, .int 0])), (st, .inl (G 0, 196, .inl (fun _ => 0)))] sz) (va_Qi (fun (r : Int32) (u : Unit) => match u with | _ => (r = 5) ∧ True) (fun _ _ => True) (fun q : Nat => sz ≤ q)) 0 0 (fun q : Nat => sz ≤ q) := by
  refine Met.ofW (cc := cX11_startNow) (maxL := 1) (ret := (some .int)) (by decide) rfl ?_
  intro p e s m args below meth c s₁ B hml hv
  obtain ⟨rfl, hsz, hP, hK⟩ := hv
  have hx := B.exec
  have hb := B.bytes
  have hr := B.returns
  have hg : ∀ w ∈ GT, w.before ([.ref h0] : List Value).toArray s = true := fun w h => atoms_spec (ws := Cond.code yX11_startNow cX11_startNow 1 (some .int) :: GT) B.pre w (List.mem_cons_of_mem _ h)
  have hown : s.vm.findClass RX11 = some m.cls := findClass_of_methodNamed B.named
  have hlocks := B.notSynchronized
  subst hsz
  have hA : ∀ q : Nat, s.heap.size ≤ q → (fun q : Nat => s.heap.size ≤ q) q := fun _ h => h
  have hS : va_S (fun q : Nat => s.heap.size ≤ q) s.heap s.heap [] := va_S.rf
  have hl := lv_entry ([.ref h0]) (n := 1) (Nat.le_of_ble_eq_true rfl)
  rw [lg_entry_eq]
  generalize (lg_sl ([.ref h0]) ++ List.replicate (1 - (lg_sl ([.ref h0])).length) Slot.unset).toArray = ls at hl ⊢
  have hl : lv_has ls 1 [(0, .ref h0)] := hl
  refine lv_aload_n hx hb dX11_startNow_0 rfl (lv_at hl 0 rfl) ?_
  refine va_get (D := (dC, dI)) (ci := 11) (v := .ref st) (C := RX11) (T := TX11) (N := 35) hx hb hg inG11 hown hK.1 hP 0 rfl rfl 0 (by decide) (hg _ wt_878) (fun _ h9 => h9) rfl dX11_startNow_1 ?_
  refine lv_bipush (v := 48) hx hb dX11_startNow_4 (by decide) ?_
  refine va_iald hx hb hK.1 hP 1 0 rfl rfl (vp_in_iff.mpr ⟨by decide, by decide⟩) dX11_startNow_6 ?_
  refine lv_cg (y := 0) (by rfl) ?_
  refine lv_iconst (v := 5) hx hb dX11_startNow_7 (by decide) ?_
  refine lv_iadd hx hb dX11_startNow_8 ?_
  refine lv_cg (y := 5) (by decide) ?_
  have hpost : (5 : Int32) = 5 := by
    first | rfl | ((repeat' split) <;> first | rfl | omega)
  refine W.widen (k := 0) (n := 0) (by omega) (by omega) ?_
  exact W.iret (v := 5) hx hb hr (fun t ht hW => ⟨⟨5, (), rfl, ⟨hpost, trivial⟩, trivial⟩, hS.F ht⟩) hS.2.2 dX11_startNow_9

set_option maxHeartbeats 4000000 in
set_option maxRecDepth 100000 in
theorem c_X11_sets (l : Launch) (dC : Nat → ClassId) (dI : Nat → Nat → Nat) (G : Nat → ClassId) (sz : Nat) (h0 st rp tp cu lt od th be ln ma ah bh ik la lg ce : Nat) (x1 v : Int32)    : Met l yX11_sets (Cond.code yX11_sets cX11_sets 5 (some .int) :: GT) ({ frames := 0, cells := 0, slots := 0, locals := 0 } : Room) (PcR [.ref h0, .int 0, .int x1, .int v] dC dI G [(h0, .inr (11, [.ref st, .int 0, .int 0, .ref rp, .int 0, .int 0, .int 0, .int 0, .int 0, .int 0, .ref tp, .int 0, .int 0, .int 0, .int 0, .int 0, .int 0, .int 0, .int 0, .ref cu, .ref lt, .ref od, .ref th, .ref be, .ref ln, .int 0, .ref ma, .int 0, .ref ah, .ref bh, .ref ik, .ref la, .ref lg, .ref ce, .int 0]))] sz) (va_Qi (fun (r : Int32) (u : Unit) => match u with | _ => (r = -1) ∧ True) (fun _ _ => True) (fun q : Nat => sz ≤ q)) 0 0 (fun q : Nat => sz ≤ q) := by
  refine Met.ofW (cc := cX11_sets) (maxL := 5) (ret := (some .int)) (by decide) rfl ?_
  intro p e s m args below meth c s₁ B hml hv
  obtain ⟨rfl, hsz, hP, hK⟩ := hv
  have hx := B.exec
  have hb := B.bytes
  have hr := B.returns
  have hg : ∀ w ∈ GT, w.before ([.ref h0, .int 0, .int x1, .int v] : List Value).toArray s = true := fun w h => atoms_spec (ws := Cond.code yX11_sets cX11_sets 5 (some .int) :: GT) B.pre w (List.mem_cons_of_mem _ h)
  have hown : s.vm.findClass RX11 = some m.cls := findClass_of_methodNamed B.named
  have hlocks := B.notSynchronized
  subst hsz
  have hA : ∀ q : Nat, s.heap.size ≤ q → (fun q : Nat => s.heap.size ≤ q) q := fun _ h => h
  have hS : va_S (fun q : Nat => s.heap.size ≤ q) s.heap s.heap [] := va_S.rf
  have hl := lv_entry ([.ref h0, .int 0, .int x1, .int v]) (n := 5) (Nat.le_of_ble_eq_true rfl)
  rw [lg_entry_eq]
  generalize (lg_sl ([.ref h0, .int 0, .int x1, .int v]) ++ List.replicate (5 - (lg_sl ([.ref h0, .int 0, .int x1, .int v])).length) Slot.unset).toArray = ls at hl ⊢
  have hl : lv_has ls 5 [(0, .ref h0), (1, .int 0), (2, .int x1), (3, .int v)] := hl
  refine lv_iload_n hx hb dX11_sets_0 rfl (lv_at hl 1 rfl) ?_
  refine lv_if_ne (tgt := 6) hx hb dX11_sets_1 (by decide) (fun c1 => ?_) (fun c1 => ?_)
  · skip
    exact absurd c1 (by decide)
  · skip
    refine lv_iconst (v := (-1)) hx hb dX11_sets_4 (by decide) ?_
    have hpost : ((-1) : Int32) = -1 := by
      have t_c1 := eqI c1
      have : (0 : Int32).toInt = 0 := (by decide)
      first | rfl | ((repeat' split) <;> first | rfl | omega)
    refine W.widen (k := 0) (n := 0) (by omega) (by omega) ?_
    exact W.iret (v := (-1)) hx hb hr (fun t ht hW => ⟨⟨(-1), (), rfl, ⟨hpost, trivial⟩, trivial⟩, hS.F ht⟩) hS.2.2 dX11_sets_5

set_option maxHeartbeats 4000000 in
set_option maxRecDepth 100000 in
theorem c_X11_setsStart (l : Launch) (dC : Nat → ClassId) (dI : Nat → Nat → Nat) (G : Nat → ClassId) (sz : Nat) (h0 st rp tp cu lt od th be ln ma ah bh ik la lg ce : Nat) (v : Int32)    : Met l yX11_sets (Cond.code yX11_sets cX11_sets 5 (some .int) :: GT) ({ frames := 0, cells := 0, slots := 0, locals := 0 } : Room) (PcW [.ref h0, .int 1, .int 48, .int v] dC dI G [(h0, .inr (11, [.ref st, .int 0, .int 0, .ref rp, .int 0, .int 0, .int 0, .int 0, .int 0, .int 0, .ref tp, .int 0, .int 0, .int 0, .int 0, .int 0, .int 0, .int 0, .int 0, .ref cu, .ref lt, .ref od, .ref th, .ref be, .ref ln, .int 0, .ref ma, .int 0, .ref ah, .ref bh, .ref ik, .ref la, .ref lg, .ref ce, .int 0])), (st, .inl (G 0, 196, .inl (fun _ => 0)))] sz) (va_Qi (fun (r : Int32) (u : Unit) => match u with | _ => (r = 0) ∧ True) (fun (u : Unit) (t : State) => match u with | _ => va_P (dC, dI) vwCl [] t.heap ∧ va_D (va_A [(h0, .inr (11, [.ref st, .int 0, .int 0, .ref rp, .int 0, .int 0, .int 0, .int 0, .int 0, .int 0, .ref tp, .int 0, .int 0, .int 0, .int 0, .int 0, .int 0, .int 0, .int 0, .ref cu, .ref lt, .ref od, .ref th, .ref be, .ref ln, .int 0, .ref ma, .int 0, .ref ah, .ref bh, .ref ik, .ref la, .ref lg, .ref ce, .int 0])), (st, .inl (G 0, 196, .inl (fun _ => 0)))] sz) []) (va_A [(h0, .inr (11, [.ref st, .int 0, .int 0, .ref rp, .int 0, .int 0, .int 0, .int 0, .int 0, .int 0, .ref tp, .int 0, .int 0, .int 0, .int 0, .int 0, .int 0, .int 0, .int 0, .ref cu, .ref lt, .ref od, .ref th, .ref be, .ref ln, .int 0, .ref ma, .int 0, .ref ah, .ref bh, .ref ik, .ref la, .ref lg, .ref ce, .int 0])), (st, .inl (G 0, 196, .inl (fun _ => 0)))] sz)) 0 0 (va_A [(h0, .inr (11, [.ref st, .int 0, .int 0, .ref rp, .int 0, .int 0, .int 0, .int 0, .int 0, .int 0, .ref tp, .int 0, .int 0, .int 0, .int 0, .int 0, .int 0, .int 0, .int 0, .ref cu, .ref lt, .ref od, .ref th, .ref be, .ref ln, .int 0, .ref ma, .int 0, .ref ah, .ref bh, .ref ik, .ref la, .ref lg, .ref ce, .int 0])), (st, .inl (G 0, 196, .inl (fun _ => 0)))] sz) := by
  refine Met.ofW (cc := cX11_sets) (maxL := 5) (ret := (some .int)) (by decide) rfl ?_
  intro p e s m args below meth c s₁ B hml hv
  obtain ⟨rfl, hsz, hP, hK, hD0⟩ := hv
  have hx := B.exec
  have hb := B.bytes
  have hr := B.returns
  have hg : ∀ w ∈ GT, w.before ([.ref h0, .int 1, .int 48, .int v] : List Value).toArray s = true := fun w h => atoms_spec (ws := Cond.code yX11_sets cX11_sets 5 (some .int) :: GT) B.pre w (List.mem_cons_of_mem _ h)
  have hown : s.vm.findClass RX11 = some m.cls := findClass_of_methodNamed B.named
  have hlocks := B.notSynchronized
  subst hsz
  have hD := hD0.self (sz := s.heap.size)
  generalize hAe : va_A [(h0, .inr (11, [.ref st, .int 0, .int 0, .ref rp, .int 0, .int 0, .int 0, .int 0, .int 0, .int 0, .ref tp, .int 0, .int 0, .int 0, .int 0, .int 0, .int 0, .int 0, .int 0, .ref cu, .ref lt, .ref od, .ref th, .ref be, .ref ln, .int 0, .ref ma, .int 0, .ref ah, .ref bh, .ref ik, .ref la, .ref lg, .ref ce, .int 0])), (st, .inl (G 0, 196, .inl (fun _ => 0)))] s.heap.size = A at hD ⊢
  have hA : ∀ q : Nat, s.heap.size ≤ q → A q := fun q h => by rw [← hAe]; exact Or.inr h
  have hS : va_S A s.heap s.heap [] := va_S.rf
  have hl := lv_entry ([.ref h0, .int 1, .int 48, .int v]) (n := 5) (Nat.le_of_ble_eq_true rfl)
  rw [lg_entry_eq]
  generalize (lg_sl ([.ref h0, .int 1, .int 48, .int v]) ++ List.replicate (5 - (lg_sl ([.ref h0, .int 1, .int 48, .int v])).length) Slot.unset).toArray = ls at hl ⊢
  have hl : lv_has ls 5 [(0, .ref h0), (1, .int 1), (2, .int 48), (3, .int v)] := hl
  refine lv_iload_n hx hb dX11_sets_0 rfl (lv_at hl 1 rfl) ?_
  refine lv_if_ne (tgt := 6) hx hb dX11_sets_1 (by decide) (fun c1 => ?_) (fun c1 => ?_)
  · skip
    refine lv_aload_n hx hb dX11_sets_6 rfl (lv_at hl 0 rfl) ?_
    refine va_get (D := (dC, dI)) (ci := 11) (v := .ref st) (C := RX11) (T := TX11) (N := 35) hx hb hg inG11 hown hK.1 hP 0 rfl rfl 0 (by decide) (hg _ wt_878) (fun _ h9 => h9) rfl dX11_sets_7 ?_
    refine lv_iload_n hx hb dX11_sets_10 rfl (lv_at hl 2 rfl) ?_
    refine va_iald hx hb hK.1 hP 1 0 rfl rfl (vp_in_iff.mpr ⟨by decide, by decide⟩) dX11_sets_11 ?_
    refine lv_cg (y := 0) (by rfl) ?_
    refine lv_istore (lv' := [(4, .int 0), (0, .ref h0), (1, .int 1), (2, .int 48), (3, .int v)]) hx hb dX11_sets_12 hl (by decide) rfl (fun ls hl => ?_)
    refine lv_aload_n hx hb dX11_sets_14 rfl (lv_at hl 1 rfl) ?_
    refine va_get (D := (dC, dI)) (ci := 11) (v := .ref st) (C := RX11) (T := TX11) (N := 35) hx hb hg inG11 hown hK.1 hP 0 rfl rfl 0 (by decide) (hg _ wt_878) (fun _ h9 => h9) rfl dX11_sets_15 ?_
    refine lv_iload_n hx hb dX11_sets_18 rfl (lv_at hl 3 rfl) ?_
    refine lv_iload_n hx hb dX11_sets_19 rfl (lv_at hl 4 rfl) ?_
    refine va_iast hx hb hK.1 hP hD hS 1 0 rfl rfl (vp_in_iff.mpr ⟨by decide, by decide⟩) dX11_sets_20 (fun H locs hP hD hS => ?_)
    have hP : va_P (dC, dI) vwCl [(h0, .inr (11, [.ref st, .int 0, .int 0, .ref rp, .int 0, .int 0, .int 0, .int 0, .int 0, .int 0, .ref tp, .int 0, .int 0, .int 0, .int 0, .int 0, .int 0, .int 0, .int 0, .ref cu, .ref lt, .ref od, .ref th, .ref be, .ref ln, .int 0, .ref ma, .int 0, .ref ah, .ref bh, .ref ik, .ref la, .ref lg, .ref ce, .int 0])), (st, .inl (G 0, 196, .inl (upd (fun _ => 0) 48 v)))] H := hP
    have hD : va_D A [(h0, .inr (11, [.ref st, .int 0, .int 0, .ref rp, .int 0, .int 0, .int 0, .int 0, .int 0, .int 0, .ref tp, .int 0, .int 0, .int 0, .int 0, .int 0, .int 0, .int 0, .int 0, .ref cu, .ref lt, .ref od, .ref th, .ref be, .ref ln, .int 0, .ref ma, .int 0, .ref ah, .ref bh, .ref ik, .ref la, .ref lg, .ref ce, .int 0])), (st, .inl (G 0, 196, .inl (upd (fun _ => 0) 48 v)))] := hD
    refine lv_iload hx hb dX11_sets_21 (lv_at hl 0 rfl) ?_
    have hpost : (0 : Int32) = 0 := by
      have t_c1 := neI c1
      have : (0 : Int32).toInt = 0 := (by decide)
      have : (1 : Int32).toInt = 1 := (by decide)
      first | rfl | ((repeat' split) <;> first | rfl | omega)
    have hP9 := hP.sub (ws' := []) [] rfl
    have hD9 := hD.sub (ws' := []) [] (by decide) rfl
    refine W.widen (k := 0) (n := 0) (by omega) (by omega) ?_
    exact W.iret (v := 0) hx hb hr (fun t ht hW => ⟨⟨0, (), rfl, ⟨hpost, trivial⟩, ⟨by rw [ht]; exact hP9, hD9⟩⟩, hS.F ht⟩) hS.2.2 dX11_sets_23
  · skip
    exact absurd c1 (by decide)

set_option maxHeartbeats 4000000 in
set_option maxRecDepth 100000 in
theorem c_X11_puts (l : Launch) (dC : Nat → ClassId) (dI : Nat → Nat → Nat) (G : Nat → ClassId) (sz : Nat) (h0 st rp tp cu lt od th be ln ma ah bh ik la lg ce : Nat) (i tb : Int32)    : Met l yX11_puts (Cond.code yX11_puts cX11_puts 3 (some .int) :: GT) ({ frames := 2, cells := 0, slots := 0, locals := 46 } : Room) (PcR [.ref h0, .int i, .int tb] dC dI G [(h0, .inr (11, [.ref st, .int 0, .int 0, .ref rp, .int 0, .int 0, .int 0, .int 0, .int 0, .int 0, .ref tp, .int 0, .int 0, .int 0, .int 0, .int 0, .int 0, .int 0, .int 0, .ref cu, .ref lt, .ref od, .ref th, .ref be, .ref ln, .int 0, .ref ma, .int 0, .ref ah, .ref bh, .ref ik, .ref la, .ref lg, .ref ce, .int 0]))] sz) (va_Qi (fun (r : Int32) (u : Unit) => match u with | _ => (r = -1) ∧ True) (fun _ _ => True) (fun q : Nat => sz ≤ q)) 0 0 (fun q : Nat => sz ≤ q) := by
  refine Met.ofW (cc := cX11_puts) (maxL := 3) (ret := (some .int)) (by decide) rfl ?_
  intro p e s m args below meth c s₁ B hml hv
  obtain ⟨rfl, hsz, hP, hK⟩ := hv
  have hx := B.exec
  have hb := B.bytes
  have hr := B.returns
  have hg : ∀ w ∈ GT, w.before ([.ref h0, .int i, .int tb] : List Value).toArray s = true := fun w h => atoms_spec (ws := Cond.code yX11_puts cX11_puts 3 (some .int) :: GT) B.pre w (List.mem_cons_of_mem _ h)
  have hown : s.vm.findClass RX11 = some m.cls := findClass_of_methodNamed B.named
  have hlocks := B.notSynchronized
  subst hsz
  have hA : ∀ q : Nat, s.heap.size ≤ q → (fun q : Nat => s.heap.size ≤ q) q := fun _ h => h
  have hS : va_S (fun q : Nat => s.heap.size ≤ q) s.heap s.heap [] := va_S.rf
  have hl := lv_entry ([.ref h0, .int i, .int tb]) (n := 3) (Nat.le_of_ble_eq_true rfl)
  rw [lg_entry_eq]
  generalize (lg_sl ([.ref h0, .int i, .int tb]) ++ List.replicate (3 - (lg_sl ([.ref h0, .int i, .int tb])).length) Slot.unset).toArray = ls at hl ⊢
  have hl : lv_has ls 3 [(0, .ref h0), (1, .int i), (2, .int tb)] := hl
  refine lv_aload_n hx hb dX11_puts_0 rfl (lv_at hl 0 rfl) ?_
  refine lv_aload_n hx hb dX11_puts_1 rfl (lv_at hl 0 rfl) ?_
  refine lv_iload_n hx hb dX11_puts_2 rfl (lv_at hl 1 rfl) ?_
  have hPc := hP.sub (ws' := [(h0, .inr (11, [.ref st, .int 0, .int 0, .ref rp, .int 0, .int 0, .int 0, .int 0, .int 0, .int 0, .ref tp, .int 0, .int 0, .int 0, .int 0, .int 0, .int 0, .int 0, .int 0, .ref cu, .ref lt, .ref od, .ref th, .ref be, .ref ln, .int 0, .ref ma, .int 0, .ref ah, .ref bh, .ref ik, .ref la, .ref lg, .ref ce, .int 0]))]) [0] rfl
  refine va_calli (va_runV (As := [.int i]) (rest := [.ref h0]) ⟨hx, hb, hml, hown, hg⟩ (c_X11_isStretch l dC dI G _ h0 st rp tp cu lt od th be ln ma ah bh ik la lg ce i ) (kwV hg mfX11_isStretch wt_1052 ⟨Nat.le_of_ble_eq_true rfl, Nat.le_of_ble_eq_true rfl⟩) (preVR hK hPc (ci := 11) rfl rfl) rfl rfl hl.1 rfl (lv_room (Nat.le_of_ble_eq_true rfl)) dX11_puts_3 ⟨Nat.le_of_ble_eq_true rfl, Nat.le_of_ble_eq_true rfl⟩) hS (fun q h1 h2 => absurd h2 (Nat.not_le.mpr h1)) (fun q h => hA q (Nat.le_trans hS.1 h)) (fun r1 ur1 t H1 locs ht hvm w2 hB hz1 hk1 hS => ?_)
  have hP := keepR hP hk1
  obtain ⟨w2, w2x⟩ := w2
  subst w2
  refine lv_if_eq (tgt := 21) hx hb dX11_puts_6 (by decide) (fun c3 => ?_) (fun c3 => ?_)
  · skip
    refine lv_iconst (v := 0) hx hb dX11_puts_21 (by decide) ?_
    refine lv_bipush (v := 38) hx hb dX11_puts_22 (by decide) ?_
    refine lv_iload_n hx hb dX11_puts_24 rfl (lv_at hl 1 rfl) ?_
    refine lv_iadd hx hb dX11_puts_25 ?_
    refine lv_iload_n hx hb dX11_puts_26 rfl (lv_at hl 2 rfl) ?_
    have hPc := hP.sub (ws' := [(h0, .inr (11, [.ref st, .int 0, .int 0, .ref rp, .int 0, .int 0, .int 0, .int 0, .int 0, .int 0, .ref tp, .int 0, .int 0, .int 0, .int 0, .int 0, .int 0, .int 0, .int 0, .ref cu, .ref lt, .ref od, .ref th, .ref be, .ref ln, .int 0, .ref ma, .int 0, .ref ah, .ref bh, .ref ik, .ref la, .ref lg, .ref ce, .int 0]))]) [0] rfl
    refine va_calli (va_runV (As := [.int 0, .int (38 + i), .int tb]) (rest := []) ⟨hx, hb, hml, hown, hg⟩ (c_X11_sets l dC dI G _ h0 st rp tp cu lt od th be ln ma ah bh ik la lg ce (38 + i) tb ) (kwV hg mfX11_sets wt_1070 ⟨Nat.le_of_ble_eq_true rfl, Nat.le_of_ble_eq_true rfl⟩) (preVR hK hPc (ci := 11) rfl rfl) rfl rfl hl.1 rfl (lv_room (Nat.le_of_ble_eq_true rfl)) dX11_puts_27 ⟨Nat.le_of_ble_eq_true rfl, Nat.le_of_ble_eq_true rfl⟩) hS (fun q h1 h2 => absurd h2 (Nat.not_le.mpr h1)) (fun q h => hA q (Nat.le_trans hS.1 h)) (fun r4 ur4 t H1 locs ht hvm w5 hB hz1 hk1 hS => ?_)
    have hP := keepR hP hk1
    obtain ⟨w5, w5x⟩ := w5
    subst w5
    have hpost : ((-1) : Int32) = -1 := by
      have t_c3 := eqI c3
      have : (0 : Int32).toInt = 0 := (by decide)
      first | rfl | ((repeat' split) <;> first | rfl | omega)
    refine W.widen (k := 0) (n := 0) (by omega) (by omega) ?_
    exact W.iret (v := (-1)) hx hb hr (fun t ht hW => ⟨⟨(-1), (), rfl, ⟨hpost, trivial⟩, trivial⟩, hS.F ht⟩) hS.2.2 dX11_puts_30
  · skip
    exact absurd c3 (by decide)

set_option maxHeartbeats 4000000 in
set_option maxRecDepth 100000 in
theorem c_X11_canHarm (l : Launch) (dC : Nat → ClassId) (dI : Nat → Nat → Nat) (G : Nat → ClassId) (sz : Nat) (h0 st rp tp cu lt od th be ln ma ah bh ik la lg ce : Nat) (i g tb : Int32)    : Met l yX11_canHarm (Cond.code yX11_canHarm cX11_canHarm 4 (some .boolean) :: GT) ({ frames := 2, cells := 0, slots := 0, locals := 46 } : Room) (PcR [.ref h0, .int i, .int g, .int tb] dC dI G [(h0, .inr (11, [.ref st, .int 0, .int 0, .ref rp, .int 0, .int 0, .int 0, .int 0, .int 0, .int 0, .ref tp, .int 0, .int 0, .int 0, .int 0, .int 0, .int 0, .int 0, .int 0, .ref cu, .ref lt, .ref od, .ref th, .ref be, .ref ln, .int 0, .ref ma, .int 0, .ref ah, .ref bh, .ref ik, .ref la, .ref lg, .ref ce, .int 0]))] sz) (va_Qi (fun (r : Int32) (u : Unit) => match u with | _ => (r = 0) ∧ True) (fun _ _ => True) (fun q : Nat => sz ≤ q)) 0 0 (fun q : Nat => sz ≤ q) := by
  refine Met.ofW (cc := cX11_canHarm) (maxL := 4) (ret := (some .boolean)) (by decide) rfl ?_
  intro p e s m args below meth c s₁ B hml hv
  obtain ⟨rfl, hsz, hP, hK⟩ := hv
  have hx := B.exec
  have hb := B.bytes
  have hr := B.returns
  have hg : ∀ w ∈ GT, w.before ([.ref h0, .int i, .int g, .int tb] : List Value).toArray s = true := fun w h => atoms_spec (ws := Cond.code yX11_canHarm cX11_canHarm 4 (some .boolean) :: GT) B.pre w (List.mem_cons_of_mem _ h)
  have hown : s.vm.findClass RX11 = some m.cls := findClass_of_methodNamed B.named
  have hlocks := B.notSynchronized
  subst hsz
  have hA : ∀ q : Nat, s.heap.size ≤ q → (fun q : Nat => s.heap.size ≤ q) q := fun _ h => h
  have hS : va_S (fun q : Nat => s.heap.size ≤ q) s.heap s.heap [] := va_S.rf
  have hl := lv_entry ([.ref h0, .int i, .int g, .int tb]) (n := 4) (Nat.le_of_ble_eq_true rfl)
  rw [lg_entry_eq]
  generalize (lg_sl ([.ref h0, .int i, .int g, .int tb]) ++ List.replicate (4 - (lg_sl ([.ref h0, .int i, .int g, .int tb])).length) Slot.unset).toArray = ls at hl ⊢
  have hl : lv_has ls 4 [(0, .ref h0), (1, .int i), (2, .int g), (3, .int tb)] := hl
  refine lv_aload_n hx hb dX11_canHarm_0 rfl (lv_at hl 0 rfl) ?_
  refine lv_iload_n hx hb dX11_canHarm_1 rfl (lv_at hl 1 rfl) ?_
  have hPc := hP.sub (ws' := [(h0, .inr (11, [.ref st, .int 0, .int 0, .ref rp, .int 0, .int 0, .int 0, .int 0, .int 0, .int 0, .ref tp, .int 0, .int 0, .int 0, .int 0, .int 0, .int 0, .int 0, .int 0, .ref cu, .ref lt, .ref od, .ref th, .ref be, .ref ln, .int 0, .ref ma, .int 0, .ref ah, .ref bh, .ref ik, .ref la, .ref lg, .ref ce, .int 0]))]) [0] rfl
  refine va_calli (va_runV (As := [.int i]) (rest := []) ⟨hx, hb, hml, hown, hg⟩ (c_X11_isStretch l dC dI G _ h0 st rp tp cu lt od th be ln ma ah bh ik la lg ce i ) (kwV hg mfX11_isStretch wt_1052 ⟨Nat.le_of_ble_eq_true rfl, Nat.le_of_ble_eq_true rfl⟩) (preVR hK hPc (ci := 11) rfl rfl) rfl rfl hl.1 rfl (lv_room (Nat.le_of_ble_eq_true rfl)) dX11_canHarm_2 ⟨Nat.le_of_ble_eq_true rfl, Nat.le_of_ble_eq_true rfl⟩) hS (fun q h1 h2 => absurd h2 (Nat.not_le.mpr h1)) (fun q h => hA q (Nat.le_trans hS.1 h)) (fun r1 ur1 t H1 locs ht hvm w2 hB hz1 hk1 hS => ?_)
  have hP := keepR hP hk1
  obtain ⟨w2, w2x⟩ := w2
  subst w2
  refine lv_if_eq (tgt := 34) hx hb dX11_canHarm_5 (by decide) (fun c3 => ?_) (fun c3 => ?_)
  · skip
    refine lv_iconst (v := 0) hx hb dX11_canHarm_34 (by decide) ?_
    have hpost : (0 : Int32) = 0 := by
      have t_c3 := eqI c3
      have : (0 : Int32).toInt = 0 := (by decide)
      first | rfl | ((repeat' split) <;> first | rfl | omega)
    refine W.widen (k := 0) (n := 0) (by omega) (by omega) ?_
    exact W.zret (v := 0) hx hb hr (by first | rfl | decide | exact rfl) (fun t ht hW => ⟨⟨0, (), rfl, ⟨hpost, trivial⟩, trivial⟩, hS.F ht⟩) hS.2.2 dX11_canHarm_35
  · skip
    exact absurd c3 (by decide)

set_option maxHeartbeats 4000000 in
set_option maxRecDepth 100000 in
theorem c_X11_power (l : Launch) (dC : Nat → ClassId) (dI : Nat → Nat → Nat) (G : Nat → ClassId) (sz : Nat)     : Met l yX11_power (Cond.code yX11_power cX11_power 4 (some .long) :: GT) ({ frames := 0, cells := 0, slots := 0, locals := 0 } : Room) (PcR [.int 0] dC dI G [] sz) (va_Ql (fun (r : Int64) (u : Unit) => match u with | _ => (r = 1) ∧ True) (fun _ _ => True) (fun q : Nat => sz ≤ q)) 0 0 (fun q : Nat => sz ≤ q) := by
  refine Met.ofW (cc := cX11_power) (maxL := 4) (ret := (some .long)) (by decide) rfl ?_
  intro p e s m args below meth c s₁ B hml hv
  obtain ⟨rfl, hsz, hP, hK⟩ := hv
  have hx := B.exec
  have hb := B.bytes
  have hr := B.returns
  have hg : ∀ w ∈ GT, w.before ([.int 0] : List Value).toArray s = true := fun w h => atoms_spec (ws := Cond.code yX11_power cX11_power 4 (some .long) :: GT) B.pre w (List.mem_cons_of_mem _ h)
  have hown : s.vm.findClass RX11 = some m.cls := findClass_of_methodNamed B.named
  have hlocks := B.notSynchronized
  subst hsz
  have hA : ∀ q : Nat, s.heap.size ≤ q → (fun q : Nat => s.heap.size ≤ q) q := fun _ h => h
  have hS : va_S (fun q : Nat => s.heap.size ≤ q) s.heap s.heap [] := va_S.rf
  have hl := lv_entry ([.int 0]) (n := 4) (Nat.le_of_ble_eq_true rfl)
  rw [lg_entry_eq]
  generalize (lg_sl ([.int 0]) ++ List.replicate (4 - (lg_sl ([.int 0])).length) Slot.unset).toArray = ls at hl ⊢
  have hl : lv_has ls 4 [(0, .int 0)] := hl
  refine lv_lconst (v := 1) hx hb dX11_power_0 (by decide) ?_
  refine lv_lstore_n (lv' := [(1, .long 1), (0, .int 0)]) hx hb dX11_power_1 rfl hl (by decide) rfl (fun ls hl => ?_)
  refine lv_iconst (v := 0) hx hb dX11_power_2 (by decide) ?_
  refine lv_istore_n (lv' := [(3, .int 0), (1, .long 1), (0, .int 0)]) hx hb dX11_power_3 rfl hl (by decide) rfl (fun ls hl => ?_)
  refine lv_iload_n hx hb dX11_power_4 rfl (lv_at hl 0 rfl) ?_
  refine lv_iload_n hx hb dX11_power_5 rfl (lv_at hl 2 rfl) ?_
  refine lv_icmp_ge (tgt := 21) hx hb dX11_power_6 (by decide) (fun c1 => ?_) (fun c1 => ?_)
  · skip
    refine lv_lload_n hx hb dX11_power_21 rfl (lv_at hl 1 rfl) ?_
    have hpost : (1 : Int64) = 1 := by
      have t_c1 := leI c1
      have : (0 : Int32).toInt = 0 := (by decide)
      first | rfl | ((repeat' split) <;> first | rfl | omega)
    refine W.widen (k := 0) (n := 0) (by omega) (by omega) ?_
    exact W.lret (v := 1) hx hb hr (fun t ht hW => ⟨⟨1, (), rfl, ⟨hpost, trivial⟩, trivial⟩, hS.F ht⟩) hS.2.2 dX11_power_22
  · skip
    exact absurd c1 (by decide)

set_option maxHeartbeats 4000000 in
set_option maxRecDepth 100000 in
theorem c_X11_layOdds (l : Launch) (dC : Nat → ClassId) (dI : Nat → Nat → Nat) (G : Nat → ClassId) (sz : Nat) (h0 st rp tp cu lt od th be ln ma ah bh ik la lg ce : Nat) (x1 x2 : Int32) (f : Nat → Int64)   : Met l yX11_layOdds (Cond.code yX11_layOdds cX11_layOdds 8 none :: GT) ({ frames := 1, cells := 0, slots := 0, locals := 20 } : Room) (PcW [.ref h0, .int 0, .int x1, .int x2] dC dI G [(h0, .inr (11, [.ref st, .int 0, .int 0, .ref rp, .int 0, .int 0, .int 0, .int 0, .int 0, .int 0, .ref tp, .int 0, .int 0, .int 0, .int 0, .int 0, .int 0, .int 0, .int 0, .ref cu, .ref lt, .ref od, .ref th, .ref be, .ref ln, .int 0, .ref ma, .int 0, .ref ah, .ref bh, .ref ik, .ref la, .ref lg, .ref ce, .int 0])), (st, .inl (G 0, 196, .inl (fun _ => 0))), (od, .inl (G 1, 10, .inr (.inl f)))] sz) (va_Qv (fun (u : Nat → Int64) => match u with | u => u 0 = 0) (fun (u : Nat → Int64) (t : State) => match u with | u => va_P (dC, dI) vwCl [(h0, .inr (11, [.ref st, .int 0, .int 0, .ref rp, .int 0, .int 0, .int 0, .int 0, .int 0, .int 0, .ref tp, .int 0, .int 0, .int 0, .int 0, .int 0, .int 0, .int 0, .int 0, .ref cu, .ref lt, .ref od, .ref th, .ref be, .ref ln, .int 0, .ref ma, .int 0, .ref ah, .ref bh, .ref ik, .ref la, .ref lg, .ref ce, .int 0])), (st, .inl (G 0, 196, .inl (fun _ => 0))), (od, .inl (G 1, 10, .inr (.inl u)))] t.heap ∧ va_D (va_A [(h0, .inr (11, [.ref st, .int 0, .int 0, .ref rp, .int 0, .int 0, .int 0, .int 0, .int 0, .int 0, .ref tp, .int 0, .int 0, .int 0, .int 0, .int 0, .int 0, .int 0, .int 0, .ref cu, .ref lt, .ref od, .ref th, .ref be, .ref ln, .int 0, .ref ma, .int 0, .ref ah, .ref bh, .ref ik, .ref la, .ref lg, .ref ce, .int 0])), (st, .inl (G 0, 196, .inl (fun _ => 0))), (od, .inl (G 1, 10, .inr (.inl f)))] sz) [(h0, .inr (11, [.ref st, .int 0, .int 0, .ref rp, .int 0, .int 0, .int 0, .int 0, .int 0, .int 0, .ref tp, .int 0, .int 0, .int 0, .int 0, .int 0, .int 0, .int 0, .int 0, .ref cu, .ref lt, .ref od, .ref th, .ref be, .ref ln, .int 0, .ref ma, .int 0, .ref ah, .ref bh, .ref ik, .ref la, .ref lg, .ref ce, .int 0])), (st, .inl (G 0, 196, .inl (fun _ => 0))), (od, .inl (G 1, 10, .inr (.inl u)))]) (va_A [(h0, .inr (11, [.ref st, .int 0, .int 0, .ref rp, .int 0, .int 0, .int 0, .int 0, .int 0, .int 0, .ref tp, .int 0, .int 0, .int 0, .int 0, .int 0, .int 0, .int 0, .int 0, .ref cu, .ref lt, .ref od, .ref th, .ref be, .ref ln, .int 0, .ref ma, .int 0, .ref ah, .ref bh, .ref ik, .ref la, .ref lg, .ref ce, .int 0])), (st, .inl (G 0, 196, .inl (fun _ => 0))), (od, .inl (G 1, 10, .inr (.inl f)))] sz)) 0 0 (va_A [(h0, .inr (11, [.ref st, .int 0, .int 0, .ref rp, .int 0, .int 0, .int 0, .int 0, .int 0, .int 0, .ref tp, .int 0, .int 0, .int 0, .int 0, .int 0, .int 0, .int 0, .int 0, .ref cu, .ref lt, .ref od, .ref th, .ref be, .ref ln, .int 0, .ref ma, .int 0, .ref ah, .ref bh, .ref ik, .ref la, .ref lg, .ref ce, .int 0])), (st, .inl (G 0, 196, .inl (fun _ => 0))), (od, .inl (G 1, 10, .inr (.inl f)))] sz) := by
  refine Met.ofW (cc := cX11_layOdds) (maxL := 8) (ret := none) (by decide) rfl ?_
  intro p e s m args below meth c s₁ B hml hv
  obtain ⟨rfl, hsz, hP, hK, hD0⟩ := hv
  have hx := B.exec
  have hb := B.bytes
  have hr := B.returns
  have hg : ∀ w ∈ GT, w.before ([.ref h0, .int 0, .int x1, .int x2] : List Value).toArray s = true := fun w h => atoms_spec (ws := Cond.code yX11_layOdds cX11_layOdds 8 none :: GT) B.pre w (List.mem_cons_of_mem _ h)
  have hown : s.vm.findClass RX11 = some m.cls := findClass_of_methodNamed B.named
  have hlocks := B.notSynchronized
  subst hsz
  have hD := hD0.self (sz := s.heap.size)
  generalize hAe : va_A [(h0, .inr (11, [.ref st, .int 0, .int 0, .ref rp, .int 0, .int 0, .int 0, .int 0, .int 0, .int 0, .ref tp, .int 0, .int 0, .int 0, .int 0, .int 0, .int 0, .int 0, .int 0, .ref cu, .ref lt, .ref od, .ref th, .ref be, .ref ln, .int 0, .ref ma, .int 0, .ref ah, .ref bh, .ref ik, .ref la, .ref lg, .ref ce, .int 0])), (st, .inl (G 0, 196, .inl (fun _ => 0))), (od, .inl (G 1, 10, .inr (.inl f)))] s.heap.size = A at hD ⊢
  have hA : ∀ q : Nat, s.heap.size ≤ q → A q := fun q h => by rw [← hAe]; exact Or.inr h
  have hS : va_S A s.heap s.heap [] := va_S.rf
  have hl := lv_entry ([.ref h0, .int 0, .int x1, .int x2]) (n := 8) (Nat.le_of_ble_eq_true rfl)
  rw [lg_entry_eq]
  generalize (lg_sl ([.ref h0, .int 0, .int x1, .int x2]) ++ List.replicate (8 - (lg_sl ([.ref h0, .int 0, .int x1, .int x2])).length) Slot.unset).toArray = ls at hl ⊢
  have hl : lv_has ls 8 [(0, .ref h0), (1, .int 0), (2, .int x1), (3, .int x2)] := hl
  refine lv_iconst (v := 0) hx hb dX11_layOdds_0 (by decide) ?_
  refine lv_istore (lv' := [(4, .int 0), (0, .ref h0), (1, .int 0), (2, .int x1), (3, .int x2)]) hx hb dX11_layOdds_1 hl (by decide) rfl (fun ls hl => ?_)
  refine lv_iload hx hb dX11_layOdds_3 (lv_at hl 0 rfl) ?_
  refine lv_bipush (v := 10) hx hb dX11_layOdds_5 (by decide) ?_
  refine lv_icmp_ge (tgt := 37) hx hb dX11_layOdds_7 (by decide) (fun c1 => ?_) (fun c1 => ?_)
  · skip
    exact absurd c1 (by decide)
  · skip
    refine lv_aload_n hx hb dX11_layOdds_10 rfl (lv_at hl 1 rfl) ?_
    refine va_get (D := (dC, dI)) (ci := 11) (v := .ref od) (C := RX11) (T := TX11) (N := 35) hx hb hg inG11 hown hK.1 hP 0 rfl rfl 21 (by decide) (hg _ wt_899) (fun _ h9 => h9) rfl dX11_layOdds_11 ?_
    refine lv_iload hx hb dX11_layOdds_14 (lv_at hl 0 rfl) ?_
    refine lv_iload hx hb dX11_layOdds_16 (lv_at hl 0 rfl) ?_
    refine lv_aload_n hx hb dX11_layOdds_18 rfl (lv_at hl 1 rfl) ?_
    have hPc := hP.sub (ws' := [(h0, .inr (11, [.ref st, .int 0, .int 0, .ref rp, .int 0, .int 0, .int 0, .int 0, .int 0, .int 0, .ref tp, .int 0, .int 0, .int 0, .int 0, .int 0, .int 0, .int 0, .int 0, .ref cu, .ref lt, .ref od, .ref th, .ref be, .ref ln, .int 0, .ref ma, .int 0, .ref ah, .ref bh, .ref ik, .ref la, .ref lg, .ref ce, .int 0])), (st, .inl (G 0, 196, .inl (fun _ => 0)))]) [0, 1] rfl
    refine va_calli (va_runV (As := []) (rest := [.int 0, .int 0, .ref od]) ⟨hx, hb, hml, hown, hg⟩ (c_X11_startNow l dC dI G _ h0 st rp tp cu lt od th be ln ma ah bh ik la lg ce ) (kwV hg mfX11_startNow wt_1044 ⟨Nat.le_of_ble_eq_true rfl, Nat.le_of_ble_eq_true rfl⟩) (preVR hK hPc (ci := 11) rfl rfl) rfl rfl hl.1 rfl (lv_room (Nat.le_of_ble_eq_true rfl)) dX11_layOdds_19 ⟨Nat.le_of_ble_eq_true rfl, Nat.le_of_ble_eq_true rfl⟩) hS (fun q h1 h2 => absurd h2 (Nat.not_le.mpr h1)) (fun q h => hA q (Nat.le_trans hS.1 h)) (fun r2 ur2 t H1 locs ht hvm w3 hB hz1 hk1 hS => ?_)
    have hP := keepR hP hk1
    obtain ⟨w3, w3x⟩ := w3
    subst w3
    refine lv_icmp_ne (tgt := 29) hx hb dX11_layOdds_22 (by decide) (fun c4 => ?_) (fun c4 => ?_)
    · skip
      refine lv_lconst (v := 0) hx hb dX11_layOdds_29 (by decide) ?_
      refine va_last hx hb hK.1 hP hD hS 2 1 rfl rfl (vp_in_iff.mpr ⟨by decide, by decide⟩) dX11_layOdds_30 (fun H locs hP hD hS => ?_)
      have hP : va_P (dC, dI) vwCl [(h0, .inr (11, [.ref st, .int 0, .int 0, .ref rp, .int 0, .int 0, .int 0, .int 0, .int 0, .int 0, .ref tp, .int 0, .int 0, .int 0, .int 0, .int 0, .int 0, .int 0, .int 0, .ref cu, .ref lt, .ref od, .ref th, .ref be, .ref ln, .int 0, .ref ma, .int 0, .ref ah, .ref bh, .ref ik, .ref la, .ref lg, .ref ce, .int 0])), (st, .inl (G 0, 196, .inl (fun _ => 0))), (od, .inl (G 1, 10, .inr (.inl (vp_updL f 0 0))))] H := hP
      have hD : va_D A [(h0, .inr (11, [.ref st, .int 0, .int 0, .ref rp, .int 0, .int 0, .int 0, .int 0, .int 0, .int 0, .ref tp, .int 0, .int 0, .int 0, .int 0, .int 0, .int 0, .int 0, .int 0, .ref cu, .ref lt, .ref od, .ref th, .ref be, .ref ln, .int 0, .ref ma, .int 0, .ref ah, .ref bh, .ref ik, .ref la, .ref lg, .ref ce, .int 0])), (st, .inl (G 0, 196, .inl (fun _ => 0))), (od, .inl (G 1, 10, .inr (.inl (vp_updL f 0 0))))] := hD
      refine lv_iinc (v := 1) (lv' := [(4, .int 1), (0, .ref h0), (1, .int 0), (2, .int x1), (3, .int x2)]) hx hb dX11_layOdds_31 hl (k := 0) rfl (by decide) (by decide) rfl (fun ls hl => ?_)
      refine lv_goto (tgt := 3) hx hb dX11_layOdds_34 (by decide) ?_
      refine lv_iload hx hb dX11_layOdds_3 (lv_at hl 0 rfl) ?_
      refine lv_bipush (v := 10) hx hb dX11_layOdds_5 (by decide) ?_
      refine lv_icmp_ge (tgt := 37) hx hb dX11_layOdds_7 (by decide) (fun c5 => ?_) (fun c5 => ?_)
      · skip
        exact absurd c5 (by decide)
      · skip
        refine lv_aload_n hx hb dX11_layOdds_10 rfl (lv_at hl 1 rfl) ?_
        refine va_get (D := (dC, dI)) (ci := 11) (v := .ref od) (C := RX11) (T := TX11) (N := 35) hx hb hg inG11 hown hK.1 hP 0 rfl rfl 21 (by decide) (hg _ wt_899) (fun _ h9 => h9) rfl dX11_layOdds_11 ?_
        refine lv_iload hx hb dX11_layOdds_14 (lv_at hl 0 rfl) ?_
        refine lv_iload hx hb dX11_layOdds_16 (lv_at hl 0 rfl) ?_
        refine lv_aload_n hx hb dX11_layOdds_18 rfl (lv_at hl 1 rfl) ?_
        have hPc := hP.sub (ws' := [(h0, .inr (11, [.ref st, .int 0, .int 0, .ref rp, .int 0, .int 0, .int 0, .int 0, .int 0, .int 0, .ref tp, .int 0, .int 0, .int 0, .int 0, .int 0, .int 0, .int 0, .int 0, .ref cu, .ref lt, .ref od, .ref th, .ref be, .ref ln, .int 0, .ref ma, .int 0, .ref ah, .ref bh, .ref ik, .ref la, .ref lg, .ref ce, .int 0])), (st, .inl (G 0, 196, .inl (fun _ => 0)))]) [0, 1] rfl
        refine va_calli (va_runV (As := []) (rest := [.int 1, .int 1, .ref od]) ⟨hx, hb, hml, hown, hg⟩ (c_X11_startNow l dC dI G _ h0 st rp tp cu lt od th be ln ma ah bh ik la lg ce ) (kwV hg mfX11_startNow wt_1044 ⟨Nat.le_of_ble_eq_true rfl, Nat.le_of_ble_eq_true rfl⟩) (preVR hK hPc (ci := 11) rfl rfl) rfl rfl hl.1 rfl (lv_room (Nat.le_of_ble_eq_true rfl)) dX11_layOdds_19 ⟨Nat.le_of_ble_eq_true rfl, Nat.le_of_ble_eq_true rfl⟩) hS (fun q h1 h2 => absurd h2 (Nat.not_le.mpr h1)) (fun q h => hA q (Nat.le_trans hS.1 h)) (fun r6 ur6 t H1 locs ht hvm w7 hB hz1 hk1 hS => ?_)
        have hP := keepR hP hk1
        obtain ⟨w7, w7x⟩ := w7
        subst w7
        refine lv_icmp_ne (tgt := 29) hx hb dX11_layOdds_22 (by decide) (fun c8 => ?_) (fun c8 => ?_)
        · skip
          refine lv_lconst (v := 0) hx hb dX11_layOdds_29 (by decide) ?_
          refine va_last hx hb hK.1 hP hD hS 2 1 rfl rfl (vp_in_iff.mpr ⟨by decide, by decide⟩) dX11_layOdds_30 (fun H locs hP hD hS => ?_)
          have hP : va_P (dC, dI) vwCl [(h0, .inr (11, [.ref st, .int 0, .int 0, .ref rp, .int 0, .int 0, .int 0, .int 0, .int 0, .int 0, .ref tp, .int 0, .int 0, .int 0, .int 0, .int 0, .int 0, .int 0, .int 0, .ref cu, .ref lt, .ref od, .ref th, .ref be, .ref ln, .int 0, .ref ma, .int 0, .ref ah, .ref bh, .ref ik, .ref la, .ref lg, .ref ce, .int 0])), (st, .inl (G 0, 196, .inl (fun _ => 0))), (od, .inl (G 1, 10, .inr (.inl (vp_updL (vp_updL f 0 0) 1 0))))] H := hP
          have hD : va_D A [(h0, .inr (11, [.ref st, .int 0, .int 0, .ref rp, .int 0, .int 0, .int 0, .int 0, .int 0, .int 0, .ref tp, .int 0, .int 0, .int 0, .int 0, .int 0, .int 0, .int 0, .int 0, .ref cu, .ref lt, .ref od, .ref th, .ref be, .ref ln, .int 0, .ref ma, .int 0, .ref ah, .ref bh, .ref ik, .ref la, .ref lg, .ref ce, .int 0])), (st, .inl (G 0, 196, .inl (fun _ => 0))), (od, .inl (G 1, 10, .inr (.inl (vp_updL (vp_updL f 0 0) 1 0))))] := hD
          refine lv_iinc (v := 2) (lv' := [(4, .int 2), (0, .ref h0), (1, .int 0), (2, .int x1), (3, .int x2)]) hx hb dX11_layOdds_31 hl (k := 0) rfl (by decide) (by decide) rfl (fun ls hl => ?_)
          refine lv_goto (tgt := 3) hx hb dX11_layOdds_34 (by decide) ?_
          refine lv_iload hx hb dX11_layOdds_3 (lv_at hl 0 rfl) ?_
          refine lv_bipush (v := 10) hx hb dX11_layOdds_5 (by decide) ?_
          refine lv_icmp_ge (tgt := 37) hx hb dX11_layOdds_7 (by decide) (fun c9 => ?_) (fun c9 => ?_)
          · skip
            exact absurd c9 (by decide)
          · skip
            refine lv_aload_n hx hb dX11_layOdds_10 rfl (lv_at hl 1 rfl) ?_
            refine va_get (D := (dC, dI)) (ci := 11) (v := .ref od) (C := RX11) (T := TX11) (N := 35) hx hb hg inG11 hown hK.1 hP 0 rfl rfl 21 (by decide) (hg _ wt_899) (fun _ h9 => h9) rfl dX11_layOdds_11 ?_
            refine lv_iload hx hb dX11_layOdds_14 (lv_at hl 0 rfl) ?_
            refine lv_iload hx hb dX11_layOdds_16 (lv_at hl 0 rfl) ?_
            refine lv_aload_n hx hb dX11_layOdds_18 rfl (lv_at hl 1 rfl) ?_
            have hPc := hP.sub (ws' := [(h0, .inr (11, [.ref st, .int 0, .int 0, .ref rp, .int 0, .int 0, .int 0, .int 0, .int 0, .int 0, .ref tp, .int 0, .int 0, .int 0, .int 0, .int 0, .int 0, .int 0, .int 0, .ref cu, .ref lt, .ref od, .ref th, .ref be, .ref ln, .int 0, .ref ma, .int 0, .ref ah, .ref bh, .ref ik, .ref la, .ref lg, .ref ce, .int 0])), (st, .inl (G 0, 196, .inl (fun _ => 0)))]) [0, 1] rfl
            refine va_calli (va_runV (As := []) (rest := [.int 2, .int 2, .ref od]) ⟨hx, hb, hml, hown, hg⟩ (c_X11_startNow l dC dI G _ h0 st rp tp cu lt od th be ln ma ah bh ik la lg ce ) (kwV hg mfX11_startNow wt_1044 ⟨Nat.le_of_ble_eq_true rfl, Nat.le_of_ble_eq_true rfl⟩) (preVR hK hPc (ci := 11) rfl rfl) rfl rfl hl.1 rfl (lv_room (Nat.le_of_ble_eq_true rfl)) dX11_layOdds_19 ⟨Nat.le_of_ble_eq_true rfl, Nat.le_of_ble_eq_true rfl⟩) hS (fun q h1 h2 => absurd h2 (Nat.not_le.mpr h1)) (fun q h => hA q (Nat.le_trans hS.1 h)) (fun r10 ur10 t H1 locs ht hvm w11 hB hz1 hk1 hS => ?_)
            have hP := keepR hP hk1
            obtain ⟨w11, w11x⟩ := w11
            subst w11
            refine lv_icmp_ne (tgt := 29) hx hb dX11_layOdds_22 (by decide) (fun c12 => ?_) (fun c12 => ?_)
            · skip
              refine lv_lconst (v := 0) hx hb dX11_layOdds_29 (by decide) ?_
              refine va_last hx hb hK.1 hP hD hS 2 1 rfl rfl (vp_in_iff.mpr ⟨by decide, by decide⟩) dX11_layOdds_30 (fun H locs hP hD hS => ?_)
              have hP : va_P (dC, dI) vwCl [(h0, .inr (11, [.ref st, .int 0, .int 0, .ref rp, .int 0, .int 0, .int 0, .int 0, .int 0, .int 0, .ref tp, .int 0, .int 0, .int 0, .int 0, .int 0, .int 0, .int 0, .int 0, .ref cu, .ref lt, .ref od, .ref th, .ref be, .ref ln, .int 0, .ref ma, .int 0, .ref ah, .ref bh, .ref ik, .ref la, .ref lg, .ref ce, .int 0])), (st, .inl (G 0, 196, .inl (fun _ => 0))), (od, .inl (G 1, 10, .inr (.inl (vp_updL (vp_updL (vp_updL f 0 0) 1 0) 2 0))))] H := hP
              have hD : va_D A [(h0, .inr (11, [.ref st, .int 0, .int 0, .ref rp, .int 0, .int 0, .int 0, .int 0, .int 0, .int 0, .ref tp, .int 0, .int 0, .int 0, .int 0, .int 0, .int 0, .int 0, .int 0, .ref cu, .ref lt, .ref od, .ref th, .ref be, .ref ln, .int 0, .ref ma, .int 0, .ref ah, .ref bh, .ref ik, .ref la, .ref lg, .ref ce, .int 0])), (st, .inl (G 0, 196, .inl (fun _ => 0))), (od, .inl (G 1, 10, .inr (.inl (vp_updL (vp_updL (vp_updL f 0 0) 1 0) 2 0))))] := hD
              refine lv_iinc (v := 3) (lv' := [(4, .int 3), (0, .ref h0), (1, .int 0), (2, .int x1), (3, .int x2)]) hx hb dX11_layOdds_31 hl (k := 0) rfl (by decide) (by decide) rfl (fun ls hl => ?_)
              refine lv_goto (tgt := 3) hx hb dX11_layOdds_34 (by decide) ?_
              refine lv_iload hx hb dX11_layOdds_3 (lv_at hl 0 rfl) ?_
              refine lv_bipush (v := 10) hx hb dX11_layOdds_5 (by decide) ?_
              refine lv_icmp_ge (tgt := 37) hx hb dX11_layOdds_7 (by decide) (fun c13 => ?_) (fun c13 => ?_)
              · skip
                exact absurd c13 (by decide)
              · skip
                refine lv_aload_n hx hb dX11_layOdds_10 rfl (lv_at hl 1 rfl) ?_
                refine va_get (D := (dC, dI)) (ci := 11) (v := .ref od) (C := RX11) (T := TX11) (N := 35) hx hb hg inG11 hown hK.1 hP 0 rfl rfl 21 (by decide) (hg _ wt_899) (fun _ h9 => h9) rfl dX11_layOdds_11 ?_
                refine lv_iload hx hb dX11_layOdds_14 (lv_at hl 0 rfl) ?_
                refine lv_iload hx hb dX11_layOdds_16 (lv_at hl 0 rfl) ?_
                refine lv_aload_n hx hb dX11_layOdds_18 rfl (lv_at hl 1 rfl) ?_
                have hPc := hP.sub (ws' := [(h0, .inr (11, [.ref st, .int 0, .int 0, .ref rp, .int 0, .int 0, .int 0, .int 0, .int 0, .int 0, .ref tp, .int 0, .int 0, .int 0, .int 0, .int 0, .int 0, .int 0, .int 0, .ref cu, .ref lt, .ref od, .ref th, .ref be, .ref ln, .int 0, .ref ma, .int 0, .ref ah, .ref bh, .ref ik, .ref la, .ref lg, .ref ce, .int 0])), (st, .inl (G 0, 196, .inl (fun _ => 0)))]) [0, 1] rfl
                refine va_calli (va_runV (As := []) (rest := [.int 3, .int 3, .ref od]) ⟨hx, hb, hml, hown, hg⟩ (c_X11_startNow l dC dI G _ h0 st rp tp cu lt od th be ln ma ah bh ik la lg ce ) (kwV hg mfX11_startNow wt_1044 ⟨Nat.le_of_ble_eq_true rfl, Nat.le_of_ble_eq_true rfl⟩) (preVR hK hPc (ci := 11) rfl rfl) rfl rfl hl.1 rfl (lv_room (Nat.le_of_ble_eq_true rfl)) dX11_layOdds_19 ⟨Nat.le_of_ble_eq_true rfl, Nat.le_of_ble_eq_true rfl⟩) hS (fun q h1 h2 => absurd h2 (Nat.not_le.mpr h1)) (fun q h => hA q (Nat.le_trans hS.1 h)) (fun r14 ur14 t H1 locs ht hvm w15 hB hz1 hk1 hS => ?_)
                have hP := keepR hP hk1
                obtain ⟨w15, w15x⟩ := w15
                subst w15
                refine lv_icmp_ne (tgt := 29) hx hb dX11_layOdds_22 (by decide) (fun c16 => ?_) (fun c16 => ?_)
                · skip
                  refine lv_lconst (v := 0) hx hb dX11_layOdds_29 (by decide) ?_
                  refine va_last hx hb hK.1 hP hD hS 2 1 rfl rfl (vp_in_iff.mpr ⟨by decide, by decide⟩) dX11_layOdds_30 (fun H locs hP hD hS => ?_)
                  have hP : va_P (dC, dI) vwCl [(h0, .inr (11, [.ref st, .int 0, .int 0, .ref rp, .int 0, .int 0, .int 0, .int 0, .int 0, .int 0, .ref tp, .int 0, .int 0, .int 0, .int 0, .int 0, .int 0, .int 0, .int 0, .ref cu, .ref lt, .ref od, .ref th, .ref be, .ref ln, .int 0, .ref ma, .int 0, .ref ah, .ref bh, .ref ik, .ref la, .ref lg, .ref ce, .int 0])), (st, .inl (G 0, 196, .inl (fun _ => 0))), (od, .inl (G 1, 10, .inr (.inl (vp_updL (vp_updL (vp_updL (vp_updL f 0 0) 1 0) 2 0) 3 0))))] H := hP
                  have hD : va_D A [(h0, .inr (11, [.ref st, .int 0, .int 0, .ref rp, .int 0, .int 0, .int 0, .int 0, .int 0, .int 0, .ref tp, .int 0, .int 0, .int 0, .int 0, .int 0, .int 0, .int 0, .int 0, .ref cu, .ref lt, .ref od, .ref th, .ref be, .ref ln, .int 0, .ref ma, .int 0, .ref ah, .ref bh, .ref ik, .ref la, .ref lg, .ref ce, .int 0])), (st, .inl (G 0, 196, .inl (fun _ => 0))), (od, .inl (G 1, 10, .inr (.inl (vp_updL (vp_updL (vp_updL (vp_updL f 0 0) 1 0) 2 0) 3 0))))] := hD
                  refine lv_iinc (v := 4) (lv' := [(4, .int 4), (0, .ref h0), (1, .int 0), (2, .int x1), (3, .int x2)]) hx hb dX11_layOdds_31 hl (k := 0) rfl (by decide) (by decide) rfl (fun ls hl => ?_)
                  refine lv_goto (tgt := 3) hx hb dX11_layOdds_34 (by decide) ?_
                  refine lv_iload hx hb dX11_layOdds_3 (lv_at hl 0 rfl) ?_
                  refine lv_bipush (v := 10) hx hb dX11_layOdds_5 (by decide) ?_
                  refine lv_icmp_ge (tgt := 37) hx hb dX11_layOdds_7 (by decide) (fun c17 => ?_) (fun c17 => ?_)
                  · skip
                    exact absurd c17 (by decide)
                  · skip
                    refine lv_aload_n hx hb dX11_layOdds_10 rfl (lv_at hl 1 rfl) ?_
                    refine va_get (D := (dC, dI)) (ci := 11) (v := .ref od) (C := RX11) (T := TX11) (N := 35) hx hb hg inG11 hown hK.1 hP 0 rfl rfl 21 (by decide) (hg _ wt_899) (fun _ h9 => h9) rfl dX11_layOdds_11 ?_
                    refine lv_iload hx hb dX11_layOdds_14 (lv_at hl 0 rfl) ?_
                    refine lv_iload hx hb dX11_layOdds_16 (lv_at hl 0 rfl) ?_
                    refine lv_aload_n hx hb dX11_layOdds_18 rfl (lv_at hl 1 rfl) ?_
                    have hPc := hP.sub (ws' := [(h0, .inr (11, [.ref st, .int 0, .int 0, .ref rp, .int 0, .int 0, .int 0, .int 0, .int 0, .int 0, .ref tp, .int 0, .int 0, .int 0, .int 0, .int 0, .int 0, .int 0, .int 0, .ref cu, .ref lt, .ref od, .ref th, .ref be, .ref ln, .int 0, .ref ma, .int 0, .ref ah, .ref bh, .ref ik, .ref la, .ref lg, .ref ce, .int 0])), (st, .inl (G 0, 196, .inl (fun _ => 0)))]) [0, 1] rfl
                    refine va_calli (va_runV (As := []) (rest := [.int 4, .int 4, .ref od]) ⟨hx, hb, hml, hown, hg⟩ (c_X11_startNow l dC dI G _ h0 st rp tp cu lt od th be ln ma ah bh ik la lg ce ) (kwV hg mfX11_startNow wt_1044 ⟨Nat.le_of_ble_eq_true rfl, Nat.le_of_ble_eq_true rfl⟩) (preVR hK hPc (ci := 11) rfl rfl) rfl rfl hl.1 rfl (lv_room (Nat.le_of_ble_eq_true rfl)) dX11_layOdds_19 ⟨Nat.le_of_ble_eq_true rfl, Nat.le_of_ble_eq_true rfl⟩) hS (fun q h1 h2 => absurd h2 (Nat.not_le.mpr h1)) (fun q h => hA q (Nat.le_trans hS.1 h)) (fun r18 ur18 t H1 locs ht hvm w19 hB hz1 hk1 hS => ?_)
                    have hP := keepR hP hk1
                    obtain ⟨w19, w19x⟩ := w19
                    subst w19
                    refine lv_icmp_ne (tgt := 29) hx hb dX11_layOdds_22 (by decide) (fun c20 => ?_) (fun c20 => ?_)
                    · skip
                      refine lv_lconst (v := 0) hx hb dX11_layOdds_29 (by decide) ?_
                      refine va_last hx hb hK.1 hP hD hS 2 1 rfl rfl (vp_in_iff.mpr ⟨by decide, by decide⟩) dX11_layOdds_30 (fun H locs hP hD hS => ?_)
                      have hP : va_P (dC, dI) vwCl [(h0, .inr (11, [.ref st, .int 0, .int 0, .ref rp, .int 0, .int 0, .int 0, .int 0, .int 0, .int 0, .ref tp, .int 0, .int 0, .int 0, .int 0, .int 0, .int 0, .int 0, .int 0, .ref cu, .ref lt, .ref od, .ref th, .ref be, .ref ln, .int 0, .ref ma, .int 0, .ref ah, .ref bh, .ref ik, .ref la, .ref lg, .ref ce, .int 0])), (st, .inl (G 0, 196, .inl (fun _ => 0))), (od, .inl (G 1, 10, .inr (.inl (vp_updL (vp_updL (vp_updL (vp_updL (vp_updL f 0 0) 1 0) 2 0) 3 0) 4 0))))] H := hP
                      have hD : va_D A [(h0, .inr (11, [.ref st, .int 0, .int 0, .ref rp, .int 0, .int 0, .int 0, .int 0, .int 0, .int 0, .ref tp, .int 0, .int 0, .int 0, .int 0, .int 0, .int 0, .int 0, .int 0, .ref cu, .ref lt, .ref od, .ref th, .ref be, .ref ln, .int 0, .ref ma, .int 0, .ref ah, .ref bh, .ref ik, .ref la, .ref lg, .ref ce, .int 0])), (st, .inl (G 0, 196, .inl (fun _ => 0))), (od, .inl (G 1, 10, .inr (.inl (vp_updL (vp_updL (vp_updL (vp_updL (vp_updL f 0 0) 1 0) 2 0) 3 0) 4 0))))] := hD
                      refine lv_iinc (v := 5) (lv' := [(4, .int 5), (0, .ref h0), (1, .int 0), (2, .int x1), (3, .int x2)]) hx hb dX11_layOdds_31 hl (k := 0) rfl (by decide) (by decide) rfl (fun ls hl => ?_)
                      refine lv_goto (tgt := 3) hx hb dX11_layOdds_34 (by decide) ?_
                      refine lv_iload hx hb dX11_layOdds_3 (lv_at hl 0 rfl) ?_
                      refine lv_bipush (v := 10) hx hb dX11_layOdds_5 (by decide) ?_
                      refine lv_icmp_ge (tgt := 37) hx hb dX11_layOdds_7 (by decide) (fun c21 => ?_) (fun c21 => ?_)
                      · skip
                        exact absurd c21 (by decide)
                      · skip
                        refine lv_aload_n hx hb dX11_layOdds_10 rfl (lv_at hl 1 rfl) ?_
                        refine va_get (D := (dC, dI)) (ci := 11) (v := .ref od) (C := RX11) (T := TX11) (N := 35) hx hb hg inG11 hown hK.1 hP 0 rfl rfl 21 (by decide) (hg _ wt_899) (fun _ h9 => h9) rfl dX11_layOdds_11 ?_
                        refine lv_iload hx hb dX11_layOdds_14 (lv_at hl 0 rfl) ?_
                        refine lv_iload hx hb dX11_layOdds_16 (lv_at hl 0 rfl) ?_
                        refine lv_aload_n hx hb dX11_layOdds_18 rfl (lv_at hl 1 rfl) ?_
                        have hPc := hP.sub (ws' := [(h0, .inr (11, [.ref st, .int 0, .int 0, .ref rp, .int 0, .int 0, .int 0, .int 0, .int 0, .int 0, .ref tp, .int 0, .int 0, .int 0, .int 0, .int 0, .int 0, .int 0, .int 0, .ref cu, .ref lt, .ref od, .ref th, .ref be, .ref ln, .int 0, .ref ma, .int 0, .ref ah, .ref bh, .ref ik, .ref la, .ref lg, .ref ce, .int 0])), (st, .inl (G 0, 196, .inl (fun _ => 0)))]) [0, 1] rfl
                        refine va_calli (va_runV (As := []) (rest := [.int 5, .int 5, .ref od]) ⟨hx, hb, hml, hown, hg⟩ (c_X11_startNow l dC dI G _ h0 st rp tp cu lt od th be ln ma ah bh ik la lg ce ) (kwV hg mfX11_startNow wt_1044 ⟨Nat.le_of_ble_eq_true rfl, Nat.le_of_ble_eq_true rfl⟩) (preVR hK hPc (ci := 11) rfl rfl) rfl rfl hl.1 rfl (lv_room (Nat.le_of_ble_eq_true rfl)) dX11_layOdds_19 ⟨Nat.le_of_ble_eq_true rfl, Nat.le_of_ble_eq_true rfl⟩) hS (fun q h1 h2 => absurd h2 (Nat.not_le.mpr h1)) (fun q h => hA q (Nat.le_trans hS.1 h)) (fun r22 ur22 t H1 locs ht hvm w23 hB hz1 hk1 hS => ?_)
                        have hP := keepR hP hk1
                        obtain ⟨w23, w23x⟩ := w23
                        subst w23
                        refine lv_icmp_ne (tgt := 29) hx hb dX11_layOdds_22 (by decide) (fun c24 => ?_) (fun c24 => ?_)
                        · skip
                          exact absurd c24 (by decide)
                        · skip
                          refine lv_lconst (v := 1) hx hb dX11_layOdds_25 (by decide) ?_
                          refine lv_goto (tgt := 30) hx hb dX11_layOdds_26 (by decide) ?_
                          refine va_last hx hb hK.1 hP hD hS 2 1 rfl rfl (vp_in_iff.mpr ⟨by decide, by decide⟩) dX11_layOdds_30 (fun H locs hP hD hS => ?_)
                          have hP : va_P (dC, dI) vwCl [(h0, .inr (11, [.ref st, .int 0, .int 0, .ref rp, .int 0, .int 0, .int 0, .int 0, .int 0, .int 0, .ref tp, .int 0, .int 0, .int 0, .int 0, .int 0, .int 0, .int 0, .int 0, .ref cu, .ref lt, .ref od, .ref th, .ref be, .ref ln, .int 0, .ref ma, .int 0, .ref ah, .ref bh, .ref ik, .ref la, .ref lg, .ref ce, .int 0])), (st, .inl (G 0, 196, .inl (fun _ => 0))), (od, .inl (G 1, 10, .inr (.inl (vp_updL (vp_updL (vp_updL (vp_updL (vp_updL (vp_updL f 0 0) 1 0) 2 0) 3 0) 4 0) 5 1))))] H := hP
                          have hD : va_D A [(h0, .inr (11, [.ref st, .int 0, .int 0, .ref rp, .int 0, .int 0, .int 0, .int 0, .int 0, .int 0, .ref tp, .int 0, .int 0, .int 0, .int 0, .int 0, .int 0, .int 0, .int 0, .ref cu, .ref lt, .ref od, .ref th, .ref be, .ref ln, .int 0, .ref ma, .int 0, .ref ah, .ref bh, .ref ik, .ref la, .ref lg, .ref ce, .int 0])), (st, .inl (G 0, 196, .inl (fun _ => 0))), (od, .inl (G 1, 10, .inr (.inl (vp_updL (vp_updL (vp_updL (vp_updL (vp_updL (vp_updL f 0 0) 1 0) 2 0) 3 0) 4 0) 5 1))))] := hD
                          refine lv_iinc (v := 6) (lv' := [(4, .int 6), (0, .ref h0), (1, .int 0), (2, .int x1), (3, .int x2)]) hx hb dX11_layOdds_31 hl (k := 0) rfl (by decide) (by decide) rfl (fun ls hl => ?_)
                          refine lv_goto (tgt := 3) hx hb dX11_layOdds_34 (by decide) ?_
                          refine lv_iload hx hb dX11_layOdds_3 (lv_at hl 0 rfl) ?_
                          refine lv_bipush (v := 10) hx hb dX11_layOdds_5 (by decide) ?_
                          refine lv_icmp_ge (tgt := 37) hx hb dX11_layOdds_7 (by decide) (fun c25 => ?_) (fun c25 => ?_)
                          · skip
                            exact absurd c25 (by decide)
                          · skip
                            refine lv_aload_n hx hb dX11_layOdds_10 rfl (lv_at hl 1 rfl) ?_
                            refine va_get (D := (dC, dI)) (ci := 11) (v := .ref od) (C := RX11) (T := TX11) (N := 35) hx hb hg inG11 hown hK.1 hP 0 rfl rfl 21 (by decide) (hg _ wt_899) (fun _ h9 => h9) rfl dX11_layOdds_11 ?_
                            refine lv_iload hx hb dX11_layOdds_14 (lv_at hl 0 rfl) ?_
                            refine lv_iload hx hb dX11_layOdds_16 (lv_at hl 0 rfl) ?_
                            refine lv_aload_n hx hb dX11_layOdds_18 rfl (lv_at hl 1 rfl) ?_
                            have hPc := hP.sub (ws' := [(h0, .inr (11, [.ref st, .int 0, .int 0, .ref rp, .int 0, .int 0, .int 0, .int 0, .int 0, .int 0, .ref tp, .int 0, .int 0, .int 0, .int 0, .int 0, .int 0, .int 0, .int 0, .ref cu, .ref lt, .ref od, .ref th, .ref be, .ref ln, .int 0, .ref ma, .int 0, .ref ah, .ref bh, .ref ik, .ref la, .ref lg, .ref ce, .int 0])), (st, .inl (G 0, 196, .inl (fun _ => 0)))]) [0, 1] rfl
                            refine va_calli (va_runV (As := []) (rest := [.int 6, .int 6, .ref od]) ⟨hx, hb, hml, hown, hg⟩ (c_X11_startNow l dC dI G _ h0 st rp tp cu lt od th be ln ma ah bh ik la lg ce ) (kwV hg mfX11_startNow wt_1044 ⟨Nat.le_of_ble_eq_true rfl, Nat.le_of_ble_eq_true rfl⟩) (preVR hK hPc (ci := 11) rfl rfl) rfl rfl hl.1 rfl (lv_room (Nat.le_of_ble_eq_true rfl)) dX11_layOdds_19 ⟨Nat.le_of_ble_eq_true rfl, Nat.le_of_ble_eq_true rfl⟩) hS (fun q h1 h2 => absurd h2 (Nat.not_le.mpr h1)) (fun q h => hA q (Nat.le_trans hS.1 h)) (fun r26 ur26 t H1 locs ht hvm w27 hB hz1 hk1 hS => ?_)
                            have hP := keepR hP hk1
                            obtain ⟨w27, w27x⟩ := w27
                            subst w27
                            refine lv_icmp_ne (tgt := 29) hx hb dX11_layOdds_22 (by decide) (fun c28 => ?_) (fun c28 => ?_)
                            · skip
                              refine lv_lconst (v := 0) hx hb dX11_layOdds_29 (by decide) ?_
                              refine va_last hx hb hK.1 hP hD hS 2 1 rfl rfl (vp_in_iff.mpr ⟨by decide, by decide⟩) dX11_layOdds_30 (fun H locs hP hD hS => ?_)
                              have hP : va_P (dC, dI) vwCl [(h0, .inr (11, [.ref st, .int 0, .int 0, .ref rp, .int 0, .int 0, .int 0, .int 0, .int 0, .int 0, .ref tp, .int 0, .int 0, .int 0, .int 0, .int 0, .int 0, .int 0, .int 0, .ref cu, .ref lt, .ref od, .ref th, .ref be, .ref ln, .int 0, .ref ma, .int 0, .ref ah, .ref bh, .ref ik, .ref la, .ref lg, .ref ce, .int 0])), (st, .inl (G 0, 196, .inl (fun _ => 0))), (od, .inl (G 1, 10, .inr (.inl (vp_updL (vp_updL (vp_updL (vp_updL (vp_updL (vp_updL (vp_updL f 0 0) 1 0) 2 0) 3 0) 4 0) 5 1) 6 0))))] H := hP
                              have hD : va_D A [(h0, .inr (11, [.ref st, .int 0, .int 0, .ref rp, .int 0, .int 0, .int 0, .int 0, .int 0, .int 0, .ref tp, .int 0, .int 0, .int 0, .int 0, .int 0, .int 0, .int 0, .int 0, .ref cu, .ref lt, .ref od, .ref th, .ref be, .ref ln, .int 0, .ref ma, .int 0, .ref ah, .ref bh, .ref ik, .ref la, .ref lg, .ref ce, .int 0])), (st, .inl (G 0, 196, .inl (fun _ => 0))), (od, .inl (G 1, 10, .inr (.inl (vp_updL (vp_updL (vp_updL (vp_updL (vp_updL (vp_updL (vp_updL f 0 0) 1 0) 2 0) 3 0) 4 0) 5 1) 6 0))))] := hD
                              refine lv_iinc (v := 7) (lv' := [(4, .int 7), (0, .ref h0), (1, .int 0), (2, .int x1), (3, .int x2)]) hx hb dX11_layOdds_31 hl (k := 0) rfl (by decide) (by decide) rfl (fun ls hl => ?_)
                              refine lv_goto (tgt := 3) hx hb dX11_layOdds_34 (by decide) ?_
                              refine lv_iload hx hb dX11_layOdds_3 (lv_at hl 0 rfl) ?_
                              refine lv_bipush (v := 10) hx hb dX11_layOdds_5 (by decide) ?_
                              refine lv_icmp_ge (tgt := 37) hx hb dX11_layOdds_7 (by decide) (fun c29 => ?_) (fun c29 => ?_)
                              · skip
                                exact absurd c29 (by decide)
                              · skip
                                refine lv_aload_n hx hb dX11_layOdds_10 rfl (lv_at hl 1 rfl) ?_
                                refine va_get (D := (dC, dI)) (ci := 11) (v := .ref od) (C := RX11) (T := TX11) (N := 35) hx hb hg inG11 hown hK.1 hP 0 rfl rfl 21 (by decide) (hg _ wt_899) (fun _ h9 => h9) rfl dX11_layOdds_11 ?_
                                refine lv_iload hx hb dX11_layOdds_14 (lv_at hl 0 rfl) ?_
                                refine lv_iload hx hb dX11_layOdds_16 (lv_at hl 0 rfl) ?_
                                refine lv_aload_n hx hb dX11_layOdds_18 rfl (lv_at hl 1 rfl) ?_
                                have hPc := hP.sub (ws' := [(h0, .inr (11, [.ref st, .int 0, .int 0, .ref rp, .int 0, .int 0, .int 0, .int 0, .int 0, .int 0, .ref tp, .int 0, .int 0, .int 0, .int 0, .int 0, .int 0, .int 0, .int 0, .ref cu, .ref lt, .ref od, .ref th, .ref be, .ref ln, .int 0, .ref ma, .int 0, .ref ah, .ref bh, .ref ik, .ref la, .ref lg, .ref ce, .int 0])), (st, .inl (G 0, 196, .inl (fun _ => 0)))]) [0, 1] rfl
                                refine va_calli (va_runV (As := []) (rest := [.int 7, .int 7, .ref od]) ⟨hx, hb, hml, hown, hg⟩ (c_X11_startNow l dC dI G _ h0 st rp tp cu lt od th be ln ma ah bh ik la lg ce ) (kwV hg mfX11_startNow wt_1044 ⟨Nat.le_of_ble_eq_true rfl, Nat.le_of_ble_eq_true rfl⟩) (preVR hK hPc (ci := 11) rfl rfl) rfl rfl hl.1 rfl (lv_room (Nat.le_of_ble_eq_true rfl)) dX11_layOdds_19 ⟨Nat.le_of_ble_eq_true rfl, Nat.le_of_ble_eq_true rfl⟩) hS (fun q h1 h2 => absurd h2 (Nat.not_le.mpr h1)) (fun q h => hA q (Nat.le_trans hS.1 h)) (fun r30 ur30 t H1 locs ht hvm w31 hB hz1 hk1 hS => ?_)
                                have hP := keepR hP hk1
                                obtain ⟨w31, w31x⟩ := w31
                                subst w31
                                refine lv_icmp_ne (tgt := 29) hx hb dX11_layOdds_22 (by decide) (fun c32 => ?_) (fun c32 => ?_)
                                · skip
                                  refine lv_lconst (v := 0) hx hb dX11_layOdds_29 (by decide) ?_
                                  refine va_last hx hb hK.1 hP hD hS 2 1 rfl rfl (vp_in_iff.mpr ⟨by decide, by decide⟩) dX11_layOdds_30 (fun H locs hP hD hS => ?_)
                                  have hP : va_P (dC, dI) vwCl [(h0, .inr (11, [.ref st, .int 0, .int 0, .ref rp, .int 0, .int 0, .int 0, .int 0, .int 0, .int 0, .ref tp, .int 0, .int 0, .int 0, .int 0, .int 0, .int 0, .int 0, .int 0, .ref cu, .ref lt, .ref od, .ref th, .ref be, .ref ln, .int 0, .ref ma, .int 0, .ref ah, .ref bh, .ref ik, .ref la, .ref lg, .ref ce, .int 0])), (st, .inl (G 0, 196, .inl (fun _ => 0))), (od, .inl (G 1, 10, .inr (.inl (vp_updL (vp_updL (vp_updL (vp_updL (vp_updL (vp_updL (vp_updL (vp_updL f 0 0) 1 0) 2 0) 3 0) 4 0) 5 1) 6 0) 7 0))))] H := hP
                                  have hD : va_D A [(h0, .inr (11, [.ref st, .int 0, .int 0, .ref rp, .int 0, .int 0, .int 0, .int 0, .int 0, .int 0, .ref tp, .int 0, .int 0, .int 0, .int 0, .int 0, .int 0, .int 0, .int 0, .ref cu, .ref lt, .ref od, .ref th, .ref be, .ref ln, .int 0, .ref ma, .int 0, .ref ah, .ref bh, .ref ik, .ref la, .ref lg, .ref ce, .int 0])), (st, .inl (G 0, 196, .inl (fun _ => 0))), (od, .inl (G 1, 10, .inr (.inl (vp_updL (vp_updL (vp_updL (vp_updL (vp_updL (vp_updL (vp_updL (vp_updL f 0 0) 1 0) 2 0) 3 0) 4 0) 5 1) 6 0) 7 0))))] := hD
                                  refine lv_iinc (v := 8) (lv' := [(4, .int 8), (0, .ref h0), (1, .int 0), (2, .int x1), (3, .int x2)]) hx hb dX11_layOdds_31 hl (k := 0) rfl (by decide) (by decide) rfl (fun ls hl => ?_)
                                  refine lv_goto (tgt := 3) hx hb dX11_layOdds_34 (by decide) ?_
                                  refine lv_iload hx hb dX11_layOdds_3 (lv_at hl 0 rfl) ?_
                                  refine lv_bipush (v := 10) hx hb dX11_layOdds_5 (by decide) ?_
                                  refine lv_icmp_ge (tgt := 37) hx hb dX11_layOdds_7 (by decide) (fun c33 => ?_) (fun c33 => ?_)
                                  · skip
                                    exact absurd c33 (by decide)
                                  · skip
                                    refine lv_aload_n hx hb dX11_layOdds_10 rfl (lv_at hl 1 rfl) ?_
                                    refine va_get (D := (dC, dI)) (ci := 11) (v := .ref od) (C := RX11) (T := TX11) (N := 35) hx hb hg inG11 hown hK.1 hP 0 rfl rfl 21 (by decide) (hg _ wt_899) (fun _ h9 => h9) rfl dX11_layOdds_11 ?_
                                    refine lv_iload hx hb dX11_layOdds_14 (lv_at hl 0 rfl) ?_
                                    refine lv_iload hx hb dX11_layOdds_16 (lv_at hl 0 rfl) ?_
                                    refine lv_aload_n hx hb dX11_layOdds_18 rfl (lv_at hl 1 rfl) ?_
                                    have hPc := hP.sub (ws' := [(h0, .inr (11, [.ref st, .int 0, .int 0, .ref rp, .int 0, .int 0, .int 0, .int 0, .int 0, .int 0, .ref tp, .int 0, .int 0, .int 0, .int 0, .int 0, .int 0, .int 0, .int 0, .ref cu, .ref lt, .ref od, .ref th, .ref be, .ref ln, .int 0, .ref ma, .int 0, .ref ah, .ref bh, .ref ik, .ref la, .ref lg, .ref ce, .int 0])), (st, .inl (G 0, 196, .inl (fun _ => 0)))]) [0, 1] rfl
                                    refine va_calli (va_runV (As := []) (rest := [.int 8, .int 8, .ref od]) ⟨hx, hb, hml, hown, hg⟩ (c_X11_startNow l dC dI G _ h0 st rp tp cu lt od th be ln ma ah bh ik la lg ce ) (kwV hg mfX11_startNow wt_1044 ⟨Nat.le_of_ble_eq_true rfl, Nat.le_of_ble_eq_true rfl⟩) (preVR hK hPc (ci := 11) rfl rfl) rfl rfl hl.1 rfl (lv_room (Nat.le_of_ble_eq_true rfl)) dX11_layOdds_19 ⟨Nat.le_of_ble_eq_true rfl, Nat.le_of_ble_eq_true rfl⟩) hS (fun q h1 h2 => absurd h2 (Nat.not_le.mpr h1)) (fun q h => hA q (Nat.le_trans hS.1 h)) (fun r34 ur34 t H1 locs ht hvm w35 hB hz1 hk1 hS => ?_)
                                    have hP := keepR hP hk1
                                    obtain ⟨w35, w35x⟩ := w35
                                    subst w35
                                    refine lv_icmp_ne (tgt := 29) hx hb dX11_layOdds_22 (by decide) (fun c36 => ?_) (fun c36 => ?_)
                                    · skip
                                      refine lv_lconst (v := 0) hx hb dX11_layOdds_29 (by decide) ?_
                                      refine va_last hx hb hK.1 hP hD hS 2 1 rfl rfl (vp_in_iff.mpr ⟨by decide, by decide⟩) dX11_layOdds_30 (fun H locs hP hD hS => ?_)
                                      have hP : va_P (dC, dI) vwCl [(h0, .inr (11, [.ref st, .int 0, .int 0, .ref rp, .int 0, .int 0, .int 0, .int 0, .int 0, .int 0, .ref tp, .int 0, .int 0, .int 0, .int 0, .int 0, .int 0, .int 0, .int 0, .ref cu, .ref lt, .ref od, .ref th, .ref be, .ref ln, .int 0, .ref ma, .int 0, .ref ah, .ref bh, .ref ik, .ref la, .ref lg, .ref ce, .int 0])), (st, .inl (G 0, 196, .inl (fun _ => 0))), (od, .inl (G 1, 10, .inr (.inl (vp_updL (vp_updL (vp_updL (vp_updL (vp_updL (vp_updL (vp_updL (vp_updL (vp_updL f 0 0) 1 0) 2 0) 3 0) 4 0) 5 1) 6 0) 7 0) 8 0))))] H := hP
                                      have hD : va_D A [(h0, .inr (11, [.ref st, .int 0, .int 0, .ref rp, .int 0, .int 0, .int 0, .int 0, .int 0, .int 0, .ref tp, .int 0, .int 0, .int 0, .int 0, .int 0, .int 0, .int 0, .int 0, .ref cu, .ref lt, .ref od, .ref th, .ref be, .ref ln, .int 0, .ref ma, .int 0, .ref ah, .ref bh, .ref ik, .ref la, .ref lg, .ref ce, .int 0])), (st, .inl (G 0, 196, .inl (fun _ => 0))), (od, .inl (G 1, 10, .inr (.inl (vp_updL (vp_updL (vp_updL (vp_updL (vp_updL (vp_updL (vp_updL (vp_updL (vp_updL f 0 0) 1 0) 2 0) 3 0) 4 0) 5 1) 6 0) 7 0) 8 0))))] := hD
                                      refine lv_iinc (v := 9) (lv' := [(4, .int 9), (0, .ref h0), (1, .int 0), (2, .int x1), (3, .int x2)]) hx hb dX11_layOdds_31 hl (k := 0) rfl (by decide) (by decide) rfl (fun ls hl => ?_)
                                      refine lv_goto (tgt := 3) hx hb dX11_layOdds_34 (by decide) ?_
                                      refine lv_iload hx hb dX11_layOdds_3 (lv_at hl 0 rfl) ?_
                                      refine lv_bipush (v := 10) hx hb dX11_layOdds_5 (by decide) ?_
                                      refine lv_icmp_ge (tgt := 37) hx hb dX11_layOdds_7 (by decide) (fun c37 => ?_) (fun c37 => ?_)
                                      · skip
                                        exact absurd c37 (by decide)
                                      · skip
                                        refine lv_aload_n hx hb dX11_layOdds_10 rfl (lv_at hl 1 rfl) ?_
                                        refine va_get (D := (dC, dI)) (ci := 11) (v := .ref od) (C := RX11) (T := TX11) (N := 35) hx hb hg inG11 hown hK.1 hP 0 rfl rfl 21 (by decide) (hg _ wt_899) (fun _ h9 => h9) rfl dX11_layOdds_11 ?_
                                        refine lv_iload hx hb dX11_layOdds_14 (lv_at hl 0 rfl) ?_
                                        refine lv_iload hx hb dX11_layOdds_16 (lv_at hl 0 rfl) ?_
                                        refine lv_aload_n hx hb dX11_layOdds_18 rfl (lv_at hl 1 rfl) ?_
                                        have hPc := hP.sub (ws' := [(h0, .inr (11, [.ref st, .int 0, .int 0, .ref rp, .int 0, .int 0, .int 0, .int 0, .int 0, .int 0, .ref tp, .int 0, .int 0, .int 0, .int 0, .int 0, .int 0, .int 0, .int 0, .ref cu, .ref lt, .ref od, .ref th, .ref be, .ref ln, .int 0, .ref ma, .int 0, .ref ah, .ref bh, .ref ik, .ref la, .ref lg, .ref ce, .int 0])), (st, .inl (G 0, 196, .inl (fun _ => 0)))]) [0, 1] rfl
                                        refine va_calli (va_runV (As := []) (rest := [.int 9, .int 9, .ref od]) ⟨hx, hb, hml, hown, hg⟩ (c_X11_startNow l dC dI G _ h0 st rp tp cu lt od th be ln ma ah bh ik la lg ce ) (kwV hg mfX11_startNow wt_1044 ⟨Nat.le_of_ble_eq_true rfl, Nat.le_of_ble_eq_true rfl⟩) (preVR hK hPc (ci := 11) rfl rfl) rfl rfl hl.1 rfl (lv_room (Nat.le_of_ble_eq_true rfl)) dX11_layOdds_19 ⟨Nat.le_of_ble_eq_true rfl, Nat.le_of_ble_eq_true rfl⟩) hS (fun q h1 h2 => absurd h2 (Nat.not_le.mpr h1)) (fun q h => hA q (Nat.le_trans hS.1 h)) (fun r38 ur38 t H1 locs ht hvm w39 hB hz1 hk1 hS => ?_)
                                        have hP := keepR hP hk1
                                        obtain ⟨w39, w39x⟩ := w39
                                        subst w39
                                        refine lv_icmp_ne (tgt := 29) hx hb dX11_layOdds_22 (by decide) (fun c40 => ?_) (fun c40 => ?_)
                                        · skip
                                          refine lv_lconst (v := 0) hx hb dX11_layOdds_29 (by decide) ?_
                                          refine va_last hx hb hK.1 hP hD hS 2 1 rfl rfl (vp_in_iff.mpr ⟨by decide, by decide⟩) dX11_layOdds_30 (fun H locs hP hD hS => ?_)
                                          have hP : va_P (dC, dI) vwCl [(h0, .inr (11, [.ref st, .int 0, .int 0, .ref rp, .int 0, .int 0, .int 0, .int 0, .int 0, .int 0, .ref tp, .int 0, .int 0, .int 0, .int 0, .int 0, .int 0, .int 0, .int 0, .ref cu, .ref lt, .ref od, .ref th, .ref be, .ref ln, .int 0, .ref ma, .int 0, .ref ah, .ref bh, .ref ik, .ref la, .ref lg, .ref ce, .int 0])), (st, .inl (G 0, 196, .inl (fun _ => 0))), (od, .inl (G 1, 10, .inr (.inl (vp_updL (vp_updL (vp_updL (vp_updL (vp_updL (vp_updL (vp_updL (vp_updL (vp_updL (vp_updL f 0 0) 1 0) 2 0) 3 0) 4 0) 5 1) 6 0) 7 0) 8 0) 9 0))))] H := hP
                                          have hD : va_D A [(h0, .inr (11, [.ref st, .int 0, .int 0, .ref rp, .int 0, .int 0, .int 0, .int 0, .int 0, .int 0, .ref tp, .int 0, .int 0, .int 0, .int 0, .int 0, .int 0, .int 0, .int 0, .ref cu, .ref lt, .ref od, .ref th, .ref be, .ref ln, .int 0, .ref ma, .int 0, .ref ah, .ref bh, .ref ik, .ref la, .ref lg, .ref ce, .int 0])), (st, .inl (G 0, 196, .inl (fun _ => 0))), (od, .inl (G 1, 10, .inr (.inl (vp_updL (vp_updL (vp_updL (vp_updL (vp_updL (vp_updL (vp_updL (vp_updL (vp_updL (vp_updL f 0 0) 1 0) 2 0) 3 0) 4 0) 5 1) 6 0) 7 0) 8 0) 9 0))))] := hD
                                          refine lv_iinc (v := 10) (lv' := [(4, .int 10), (0, .ref h0), (1, .int 0), (2, .int x1), (3, .int x2)]) hx hb dX11_layOdds_31 hl (k := 0) rfl (by decide) (by decide) rfl (fun ls hl => ?_)
                                          refine lv_goto (tgt := 3) hx hb dX11_layOdds_34 (by decide) ?_
                                          refine lv_iload hx hb dX11_layOdds_3 (lv_at hl 0 rfl) ?_
                                          refine lv_bipush (v := 10) hx hb dX11_layOdds_5 (by decide) ?_
                                          refine lv_icmp_ge (tgt := 37) hx hb dX11_layOdds_7 (by decide) (fun c41 => ?_) (fun c41 => ?_)
                                          · skip
                                            refine lv_iconst (v := 0) hx hb dX11_layOdds_37 (by decide) ?_
                                            refine lv_istore (lv' := [(4, .int 0), (0, .ref h0), (1, .int 0), (2, .int x1), (3, .int x2)]) hx hb dX11_layOdds_38 hl (by decide) rfl (fun ls hl => ?_)
                                            refine lv_iload hx hb dX11_layOdds_40 (lv_at hl 0 rfl) ?_
                                            refine lv_iload_n hx hb dX11_layOdds_42 rfl (lv_at hl 2 rfl) ?_
                                            refine lv_icmp_ge (tgt := 231) hx hb dX11_layOdds_43 (by decide) (fun c42 => ?_) (fun c42 => ?_)
                                            · skip
                                              have hP9 := hP.sub (ws' := [(h0, .inr (11, [.ref st, .int 0, .int 0, .ref rp, .int 0, .int 0, .int 0, .int 0, .int 0, .int 0, .ref tp, .int 0, .int 0, .int 0, .int 0, .int 0, .int 0, .int 0, .int 0, .ref cu, .ref lt, .ref od, .ref th, .ref be, .ref ln, .int 0, .ref ma, .int 0, .ref ah, .ref bh, .ref ik, .ref la, .ref lg, .ref ce, .int 0])), (st, .inl (G 0, 196, .inl (fun _ => 0))), (od, .inl (G 1, 10, .inr (.inl (vp_updL (vp_updL (vp_updL (vp_updL (vp_updL (vp_updL (vp_updL (vp_updL (vp_updL (vp_updL f 0 0) 1 0) 2 0) 3 0) 4 0) 5 1) 6 0) 7 0) 8 0) 9 0))))]) [0, 1, 2] rfl
                                              have hD9 := hD.sub (ws' := [(h0, .inr (11, [.ref st, .int 0, .int 0, .ref rp, .int 0, .int 0, .int 0, .int 0, .int 0, .int 0, .ref tp, .int 0, .int 0, .int 0, .int 0, .int 0, .int 0, .int 0, .int 0, .ref cu, .ref lt, .ref od, .ref th, .ref be, .ref ln, .int 0, .ref ma, .int 0, .ref ah, .ref bh, .ref ik, .ref la, .ref lg, .ref ce, .int 0])), (st, .inl (G 0, 196, .inl (fun _ => 0))), (od, .inl (G 1, 10, .inr (.inl (vp_updL (vp_updL (vp_updL (vp_updL (vp_updL (vp_updL (vp_updL (vp_updL (vp_updL (vp_updL f 0 0) 1 0) 2 0) 3 0) 4 0) 5 1) 6 0) 7 0) 8 0) 9 0))))]) [0, 1, 2] (by decide) rfl
                                              refine W.widen (k := 0) (n := 0) (by omega) (by omega) ?_
                                              exact W.vret hx hb hr (fun t ht hW => ⟨⟨vp_updL (vp_updL (vp_updL (vp_updL (vp_updL (vp_updL (vp_updL (vp_updL (vp_updL (vp_updL f 0 0) 1 0) 2 0) 3 0) 4 0) 5 1) 6 0) 7 0) 8 0) 9 0, rfl, rfl, ⟨by rw [ht]; exact hP9, hD9⟩⟩, hS.F ht⟩) hS.2.2 dX11_layOdds_231
                                            · skip
                                              exact absurd c42 (by decide)
                                          · skip
                                            exact absurd c41 (by decide)
                                        · skip
                                          exact absurd c40 (by decide)
                                    · skip
                                      exact absurd c36 (by decide)
                                · skip
                                  exact absurd c32 (by decide)
                            · skip
                              exact absurd c28 (by decide)
                    · skip
                      exact absurd c20 (by decide)
                · skip
                  exact absurd c16 (by decide)
            · skip
              exact absurd c12 (by decide)
        · skip
          exact absurd c8 (by decide)
    · skip
      exact absurd c4 (by decide)

set_option maxHeartbeats 4000000 in
set_option maxRecDepth 100000 in
theorem c_X11_lowest (l : Launch) (dC : Nat → ClassId) (dI : Nat → Nat → Nat) (G : Nat → ClassId) (sz : Nat)  (what : Int32)    : Met l yX11_lowest (Cond.code yX11_lowest cX11_lowest 11 (some .long) :: GT) ({ frames := 0, cells := 0, slots := 0, locals := 0 } : Room) (PcR [.long 0, .long 1, .int what] dC dI G [] sz) (va_Ql (fun (r : Int64) (u : Unit) => match u with | _ => (r = if what.toInt = 0 then 0 else 1) ∧ True) (fun _ _ => True) (fun q : Nat => sz ≤ q)) 0 0 (fun q : Nat => sz ≤ q) := by
  refine Met.ofW (cc := cX11_lowest) (maxL := 11) (ret := (some .long)) (by decide) rfl ?_
  intro p e s m args below meth c s₁ B hml hv
  obtain ⟨rfl, hsz, hP, hK⟩ := hv
  have hx := B.exec
  have hb := B.bytes
  have hr := B.returns
  have hg : ∀ w ∈ GT, w.before ([.long 0, .long 1, .int what] : List Value).toArray s = true := fun w h => atoms_spec (ws := Cond.code yX11_lowest cX11_lowest 11 (some .long) :: GT) B.pre w (List.mem_cons_of_mem _ h)
  have hown : s.vm.findClass RX11 = some m.cls := findClass_of_methodNamed B.named
  have hlocks := B.notSynchronized
  subst hsz
  have hA : ∀ q : Nat, s.heap.size ≤ q → (fun q : Nat => s.heap.size ≤ q) q := fun _ h => h
  have hS : va_S (fun q : Nat => s.heap.size ≤ q) s.heap s.heap [] := va_S.rf
  have hl := lv_entry ([.long 0, .long 1, .int what]) (n := 11) (Nat.le_of_ble_eq_true rfl)
  rw [lg_entry_eq]
  generalize (lg_sl ([.long 0, .long 1, .int what]) ++ List.replicate (11 - (lg_sl ([.long 0, .long 1, .int what])).length) Slot.unset).toArray = ls at hl ⊢
  have hl : lv_has ls 11 [(0, .long 0), (2, .long 1), (4, .int what)] := hl
  refine lv_lload_n hx hb dX11_lowest_0 rfl (lv_at hl 0 rfl) ?_
  refine lv_lstore (lv' := [(5, .long 0), (0, .long 0), (2, .long 1), (4, .int what)]) hx hb dX11_lowest_1 hl (by decide) rfl (fun ls hl => ?_)
  refine lv_lload_n hx hb dX11_lowest_3 rfl (lv_at hl 2 rfl) ?_
  refine lv_lstore (lv' := [(7, .long 1), (5, .long 0), (0, .long 0), (2, .long 1), (4, .int what)]) hx hb dX11_lowest_4 hl (by decide) rfl (fun ls hl => ?_)
  refine lv_lload hx hb dX11_lowest_6 (lv_at hl 0 rfl) ?_
  refine lv_lconst (v := 0) hx hb dX11_lowest_8 (by decide) ?_
  refine W.lcmp hx hb dX11_lowest_9 ?_
  refine lv_cg (y := 1) (by decide) ?_
  refine lv_if_eq (tgt := 31) hx hb dX11_lowest_10 (by decide) (fun c1 => ?_) (fun c1 => ?_)
  · skip
    exact absurd c1 (by decide)
  · skip
    refine lv_lload hx hb dX11_lowest_13 (lv_at hl 1 rfl) ?_
    refine lv_lload hx hb dX11_lowest_15 (lv_at hl 0 rfl) ?_
    refine lv_lrem hx hb dX11_lowest_17 (by decide) ?_
    refine lv_cgl (y := 0) (by decide) ?_
    refine lv_lstore (lv' := [(9, .long 0), (7, .long 1), (5, .long 0), (0, .long 0), (2, .long 1), (4, .int what)]) hx hb dX11_lowest_18 hl (by decide) rfl (fun ls hl => ?_)
    refine lv_lload hx hb dX11_lowest_20 (lv_at hl 1 rfl) ?_
    refine lv_lstore (lv' := [(5, .long 1), (9, .long 0), (7, .long 1), (0, .long 0), (2, .long 1), (4, .int what)]) hx hb dX11_lowest_22 hl (by decide) rfl (fun ls hl => ?_)
    refine lv_lload hx hb dX11_lowest_24 (lv_at hl 1 rfl) ?_
    refine lv_lstore (lv' := [(7, .long 0), (5, .long 1), (9, .long 0), (0, .long 0), (2, .long 1), (4, .int what)]) hx hb dX11_lowest_26 hl (by decide) rfl (fun ls hl => ?_)
    refine lv_goto (tgt := 6) hx hb dX11_lowest_28 (by decide) ?_
    refine lv_lload hx hb dX11_lowest_6 (lv_at hl 0 rfl) ?_
    refine lv_lconst (v := 0) hx hb dX11_lowest_8 (by decide) ?_
    refine W.lcmp hx hb dX11_lowest_9 ?_
    refine lv_cg (y := 0) (by decide) ?_
    refine lv_if_eq (tgt := 31) hx hb dX11_lowest_10 (by decide) (fun c2 => ?_) (fun c2 => ?_)
    · skip
      refine lv_iload hx hb dX11_lowest_31 (lv_at hl 5 rfl) ?_
      refine lv_if_ne (tgt := 40) hx hb dX11_lowest_33 (by decide) (fun c3 => ?_) (fun c3 => ?_)
      · skip
        refine lv_lload_n hx hb dX11_lowest_40 rfl (lv_at hl 4 rfl) ?_
        refine lv_lload hx hb dX11_lowest_41 (lv_at hl 1 rfl) ?_
        refine lv_ldiv hx hb dX11_lowest_43 (by decide) ?_
        refine lv_cgl (y := 1) (by decide) ?_
        have hpost : (1 : Int64) = if what.toInt = 0 then 0 else 1 := by
          have t_c1 := neI c1
          have t_c2 := eqI c2
          have t_c3 := neI c3
          have : (0 : Int32).toInt = 0 := (by decide)
          have : (1 : Int32).toInt = 1 := (by decide)
          first | rfl | ((repeat' split) <;> first | rfl | omega)
        refine W.widen (k := 0) (n := 0) (by omega) (by omega) ?_
        exact W.lret (v := 1) hx hb hr (fun t ht hW => ⟨⟨1, (), rfl, ⟨hpost, trivial⟩, trivial⟩, hS.F ht⟩) hS.2.2 dX11_lowest_44
      · skip
        refine lv_lload_n hx hb dX11_lowest_36 rfl (lv_at hl 3 rfl) ?_
        refine lv_goto (tgt := 41) hx hb dX11_lowest_37 (by decide) ?_
        refine lv_lload hx hb dX11_lowest_41 (lv_at hl 1 rfl) ?_
        refine lv_ldiv hx hb dX11_lowest_43 (by decide) ?_
        refine lv_cgl (y := 0) (by decide) ?_
        have hpost : (0 : Int64) = if what.toInt = 0 then 0 else 1 := by
          have t_c1 := neI c1
          have t_c2 := eqI c2
          have t_c3 := eqI c3
          have : (0 : Int32).toInt = 0 := (by decide)
          have : (1 : Int32).toInt = 1 := (by decide)
          first | rfl | ((repeat' split) <;> first | rfl | omega)
        refine W.widen (k := 0) (n := 0) (by omega) (by omega) ?_
        exact W.lret (v := 0) hx hb hr (fun t ht hW => ⟨⟨0, (), rfl, ⟨hpost, trivial⟩, trivial⟩, hS.F ht⟩) hS.2.2 dX11_lowest_44
    · skip
      exact absurd c2 (by decide)

set_option maxHeartbeats 4000000 in
set_option maxRecDepth 100000 in
theorem c_X11_bestAt (l : Launch) (dC : Nat → ClassId) (dI : Nat → Nat → Nat) (G : Nat → ClassId) (sz : Nat)     : Met l yX11_bestAt (Cond.code yX11_bestAt cX11_bestAt 3 (some .int) :: GT) ({ frames := 0, cells := 0, slots := 0, locals := 0 } : Room) (PcR [.int 0, .int (-4), .int 5] dC dI G [] sz) (va_Qi (fun (r : Int32) (u : Unit) => match u with | _ => (r = 5) ∧ True) (fun _ _ => True) (fun q : Nat => sz ≤ q)) 0 0 (fun q : Nat => sz ≤ q) := by
  refine Met.ofW (cc := cX11_bestAt) (maxL := 3) (ret := (some .int)) (by decide) rfl ?_
  intro p e s m args below meth c s₁ B hml hv
  obtain ⟨rfl, hsz, hP, hK⟩ := hv
  have hx := B.exec
  have hb := B.bytes
  have hr := B.returns
  have hg : ∀ w ∈ GT, w.before ([.int 0, .int (-4), .int 5] : List Value).toArray s = true := fun w h => atoms_spec (ws := Cond.code yX11_bestAt cX11_bestAt 3 (some .int) :: GT) B.pre w (List.mem_cons_of_mem _ h)
  have hown : s.vm.findClass RX11 = some m.cls := findClass_of_methodNamed B.named
  have hlocks := B.notSynchronized
  subst hsz
  have hA : ∀ q : Nat, s.heap.size ≤ q → (fun q : Nat => s.heap.size ≤ q) q := fun _ h => h
  have hS : va_S (fun q : Nat => s.heap.size ≤ q) s.heap s.heap [] := va_S.rf
  have hl := lv_entry ([.int 0, .int (-4), .int 5]) (n := 3) (Nat.le_of_ble_eq_true rfl)
  rw [lg_entry_eq]
  generalize (lg_sl ([.int 0, .int (-4), .int 5]) ++ List.replicate (3 - (lg_sl ([.int 0, .int (-4), .int 5])).length) Slot.unset).toArray = ls at hl ⊢
  have hl : lv_has ls 3 [(0, .int 0), (1, .int (-4)), (2, .int 5)] := hl
  refine lv_bipush (v := 70) hx hb dX11_bestAt_0 (by decide) ?_
  refine lv_iload_n hx hb dX11_bestAt_2 rfl (lv_at hl 0 rfl) ?_
  refine lv_imul hx hb dX11_bestAt_3 ?_
  refine lv_cg (y := 0) (by decide) ?_
  refine lv_bipush (v := 10) hx hb dX11_bestAt_4 (by decide) ?_
  refine lv_iload_n hx hb dX11_bestAt_6 rfl (lv_at hl 1 rfl) ?_
  refine lv_bipush (v := (-4)) hx hb dX11_bestAt_7 (by decide) ?_
  refine lv_icmp_ne (tgt := 16) hx hb dX11_bestAt_9 (by decide) (fun c1 => ?_) (fun c1 => ?_)
  · skip
    exact absurd c1 (by decide)
  · skip
    refine lv_iconst (v := 0) hx hb dX11_bestAt_12 (by decide) ?_
    refine lv_goto (tgt := 19) hx hb dX11_bestAt_13 (by decide) ?_
    refine lv_imul hx hb dX11_bestAt_19 ?_
    refine lv_cg (y := 0) (by decide) ?_
    refine lv_iadd hx hb dX11_bestAt_20 ?_
    refine lv_cg (y := 0) (by decide) ?_
    refine lv_iload_n hx hb dX11_bestAt_21 rfl (lv_at hl 2 rfl) ?_
    refine lv_iadd hx hb dX11_bestAt_22 ?_
    refine lv_cg (y := 5) (by decide) ?_
    have hpost : (5 : Int32) = 5 := by
      have t_c1 := eqI c1
      have : ((-4) : Int32).toInt = -4 := (by decide)
      first | rfl | ((repeat' split) <;> first | rfl | omega)
    refine W.widen (k := 0) (n := 0) (by omega) (by omega) ?_
    exact W.iret (v := 5) hx hb hr (fun t ht hW => ⟨⟨5, (), rfl, ⟨hpost, trivial⟩, trivial⟩, hS.F ht⟩) hS.2.2 dX11_bestAt_23

set_option maxHeartbeats 4000000 in
set_option maxRecDepth 100000 in
theorem c_X11_layBest (l : Launch) (dC : Nat → ClassId) (dI : Nat → Nat → Nat) (G : Nat → ClassId) (sz : Nat) (h0 st rp tp cu lt od th be ln ma ah bh ik la lg ce : Nat) (f : Nat → Int64)   : Met l yX11_layBest (Cond.code yX11_layBest cX11_layBest 8 none :: GT) ({ frames := 0, cells := 0, slots := 0, locals := 0 } : Room) (PcW [.ref h0, .int (-4)] dC dI G [(h0, .inr (11, [.ref st, .int 0, .int 0, .ref rp, .int 0, .int 0, .int 0, .int 0, .int 0, .int 0, .ref tp, .int 0, .int 0, .int 0, .int 0, .int 0, .int 0, .int 0, .int 0, .ref cu, .ref lt, .ref od, .ref th, .ref be, .ref ln, .int 0, .ref ma, .int 0, .ref ah, .ref bh, .ref ik, .ref la, .ref lg, .ref ce, .int 0])), (be, .inl (G 1, 770, .inr (.inl f)))] sz) (va_Qv (fun (u : Nat → Int64) => match u with | u => u 5 = 0) (fun (u : Nat → Int64) (t : State) => match u with | u => va_P (dC, dI) vwCl [(h0, .inr (11, [.ref st, .int 0, .int 0, .ref rp, .int 0, .int 0, .int 0, .int 0, .int 0, .int 0, .ref tp, .int 0, .int 0, .int 0, .int 0, .int 0, .int 0, .int 0, .int 0, .ref cu, .ref lt, .ref od, .ref th, .ref be, .ref ln, .int 0, .ref ma, .int 0, .ref ah, .ref bh, .ref ik, .ref la, .ref lg, .ref ce, .int 0])), (be, .inl (G 1, 770, .inr (.inl u)))] t.heap ∧ va_D (va_A [(h0, .inr (11, [.ref st, .int 0, .int 0, .ref rp, .int 0, .int 0, .int 0, .int 0, .int 0, .int 0, .ref tp, .int 0, .int 0, .int 0, .int 0, .int 0, .int 0, .int 0, .int 0, .ref cu, .ref lt, .ref od, .ref th, .ref be, .ref ln, .int 0, .ref ma, .int 0, .ref ah, .ref bh, .ref ik, .ref la, .ref lg, .ref ce, .int 0])), (be, .inl (G 1, 770, .inr (.inl f)))] sz) [(h0, .inr (11, [.ref st, .int 0, .int 0, .ref rp, .int 0, .int 0, .int 0, .int 0, .int 0, .int 0, .ref tp, .int 0, .int 0, .int 0, .int 0, .int 0, .int 0, .int 0, .int 0, .ref cu, .ref lt, .ref od, .ref th, .ref be, .ref ln, .int 0, .ref ma, .int 0, .ref ah, .ref bh, .ref ik, .ref la, .ref lg, .ref ce, .int 0])), (be, .inl (G 1, 770, .inr (.inl u)))]) (va_A [(h0, .inr (11, [.ref st, .int 0, .int 0, .ref rp, .int 0, .int 0, .int 0, .int 0, .int 0, .int 0, .ref tp, .int 0, .int 0, .int 0, .int 0, .int 0, .int 0, .int 0, .int 0, .ref cu, .ref lt, .ref od, .ref th, .ref be, .ref ln, .int 0, .ref ma, .int 0, .ref ah, .ref bh, .ref ik, .ref la, .ref lg, .ref ce, .int 0])), (be, .inl (G 1, 770, .inr (.inl f)))] sz)) 0 0 (va_A [(h0, .inr (11, [.ref st, .int 0, .int 0, .ref rp, .int 0, .int 0, .int 0, .int 0, .int 0, .int 0, .ref tp, .int 0, .int 0, .int 0, .int 0, .int 0, .int 0, .int 0, .int 0, .ref cu, .ref lt, .ref od, .ref th, .ref be, .ref ln, .int 0, .ref ma, .int 0, .ref ah, .ref bh, .ref ik, .ref la, .ref lg, .ref ce, .int 0])), (be, .inl (G 1, 770, .inr (.inl f)))] sz) := by
  refine Met.ofW (cc := cX11_layBest) (maxL := 8) (ret := none) (by decide) rfl ?_
  intro p e s m args below meth c s₁ B hml hv
  obtain ⟨rfl, hsz, hP, hK, hD0⟩ := hv
  have hx := B.exec
  have hb := B.bytes
  have hr := B.returns
  have hg : ∀ w ∈ GT, w.before ([.ref h0, .int (-4)] : List Value).toArray s = true := fun w h => atoms_spec (ws := Cond.code yX11_layBest cX11_layBest 8 none :: GT) B.pre w (List.mem_cons_of_mem _ h)
  have hown : s.vm.findClass RX11 = some m.cls := findClass_of_methodNamed B.named
  have hlocks := B.notSynchronized
  subst hsz
  have hD := hD0.self (sz := s.heap.size)
  generalize hAe : va_A [(h0, .inr (11, [.ref st, .int 0, .int 0, .ref rp, .int 0, .int 0, .int 0, .int 0, .int 0, .int 0, .ref tp, .int 0, .int 0, .int 0, .int 0, .int 0, .int 0, .int 0, .int 0, .ref cu, .ref lt, .ref od, .ref th, .ref be, .ref ln, .int 0, .ref ma, .int 0, .ref ah, .ref bh, .ref ik, .ref la, .ref lg, .ref ce, .int 0])), (be, .inl (G 1, 770, .inr (.inl f)))] s.heap.size = A at hD ⊢
  have hA : ∀ q : Nat, s.heap.size ≤ q → A q := fun q h => by rw [← hAe]; exact Or.inr h
  have hS : va_S A s.heap s.heap [] := va_S.rf
  have hl := lv_entry ([.ref h0, .int (-4)]) (n := 8) (Nat.le_of_ble_eq_true rfl)
  rw [lg_entry_eq]
  generalize (lg_sl ([.ref h0, .int (-4)]) ++ List.replicate (8 - (lg_sl ([.ref h0, .int (-4)])).length) Slot.unset).toArray = ls at hl ⊢
  have hl : lv_has ls 8 [(0, .ref h0), (1, .int (-4))] := hl
  refine lv_iconst (v := 0) hx hb dX11_layBest_0 (by decide) ?_
  refine lv_istore_n (lv' := [(2, .int 0), (0, .ref h0), (1, .int (-4))]) hx hb dX11_layBest_1 rfl hl (by decide) rfl (fun ls hl => ?_)
  have loop2 : ∀ (nf j : Nat), 70 + 1 ≤ j + nf → j ≤ 70 → ∀ (g : Nat → Int64) (H : Heap) (locs : List Loc), (5 < j → g 5 = 0) → va_P (dC, dI) vwCl [(h0, .inr (11, [.ref st, .int 0, .int 0, .ref rp, .int 0, .int 0, .int 0, .int 0, .int 0, .int 0, .ref tp, .int 0, .int 0, .int 0, .int 0, .int 0, .int 0, .int 0, .int 0, .ref cu, .ref lt, .ref od, .ref th, .ref be, .ref ln, .int 0, .ref ma, .int 0, .ref ah, .ref bh, .ref ik, .ref la, .ref lg, .ref ce, .int 0])), (be, .inl (G 1, 770, .inr (.inl g)))] H → va_D A [(h0, .inr (11, [.ref st, .int 0, .int 0, .ref rp, .int 0, .int 0, .int 0, .int 0, .int 0, .int 0, .ref tp, .int 0, .int 0, .int 0, .int 0, .int 0, .int 0, .int 0, .int 0, .ref cu, .ref lt, .ref od, .ref th, .ref be, .ref ln, .int 0, .ref ma, .int 0, .ref ah, .ref bh, .ref ik, .ref la, .ref lg, .ref ce, .int 0])), (be, .inl (G 1, 770, .inr (.inl g)))] → va_S A s.heap H locs → ∀ (ls : Array Slot), lv_has ls 8 [(2, .int (nI j)), (0, .ref h0), (1, .int (-4))] → W p l e (headSpec (Cond.code yX11_layBest cX11_layBest 8 none :: GT) ({ frames := 0, cells := 0, slots := 0, locals := 0 } : Room)).room s m ([.ref h0, .int (-4)] : List Value).toArray below meth c H locs 0 0 (MQ below (va_Qv (fun (u : Nat → Int64) => match u with | u => u 5 = 0) (fun (u : Nat → Int64) (t : State) => match u with | u => va_P (dC, dI) vwCl [(h0, .inr (11, [.ref st, .int 0, .int 0, .ref rp, .int 0, .int 0, .int 0, .int 0, .int 0, .int 0, .ref tp, .int 0, .int 0, .int 0, .int 0, .int 0, .int 0, .int 0, .int 0, .ref cu, .ref lt, .ref od, .ref th, .ref be, .ref ln, .int 0, .ref ma, .int 0, .ref ah, .ref bh, .ref ik, .ref la, .ref lg, .ref ce, .int 0])), (be, .inl (G 1, 770, .inr (.inl u)))] t.heap ∧ va_D A [(h0, .inr (11, [.ref st, .int 0, .int 0, .ref rp, .int 0, .int 0, .int 0, .int 0, .int 0, .int 0, .ref tp, .int 0, .int 0, .int 0, .int 0, .int 0, .int 0, .int 0, .int 0, .ref cu, .ref lt, .ref od, .ref th, .ref be, .ref ln, .int 0, .ref ma, .int 0, .ref ah, .ref bh, .ref ik, .ref la, .ref lg, .ref ce, .int 0])), (be, .inl (G 1, 770, .inr (.inl u)))]) A) ([.ref h0, .int (-4)] : List Value).toArray s 0 0 A) (F0 m 2 ls []) := by
    intro nf
    induction nf with
    | zero => intro j h1 h2; exact absurd h1 (by omega)
    | succ nf ih2 =>
      intro j hn1 hj2 g H locs hinv hP hD hS ls hl
      refine lv_iload_n hx hb dX11_layBest_2 rfl (lv_at hl 0 rfl) ?_
      refine lv_bipush (v := 70) hx hb dX11_layBest_3 (by decide) ?_
      refine lv_icmp_ge (tgt := 40) hx hb dX11_layBest_5 (by decide) (fun c3 => ?_) (fun c3 => ?_)
      · skip
        have n4 : 70 ≤ j := by have t := leI c3; rw [nI_toInt (n := j) (by omega)] at t; have : (70 : Int32).toInt = 70 := (by decide); omega
        refine lv_aload_n hx hb dX11_layBest_40 rfl (lv_at hl 1 rfl) ?_
        refine va_get (D := (dC, dI)) (ci := 11) (v := .int 0) (C := RX11) (T := TX11) (N := 35) hx hb hg inG11 hown hK.1 hP 0 rfl rfl 1 (by decide) (hg _ wt_879) (fun _ h9 => h9) rfl dX11_layBest_41 ?_
        refine lv_iconst (v := 1) hx hb dX11_layBest_44 (by decide) ?_
        refine lv_isub hx hb dX11_layBest_45 ?_
        refine lv_cg (y := (-1)) (by decide) ?_
        refine lv_istore_n (lv' := [(2, .int (-1)), (0, .ref h0), (1, .int (-4))]) hx hb dX11_layBest_46 rfl hl (by decide) rfl (fun ls hl => ?_)
        refine lv_iload_n hx hb dX11_layBest_47 rfl (lv_at hl 0 rfl) ?_
        refine lv_if_lt (tgt := 235) hx hb dX11_layBest_48 (by decide) (fun c5 => ?_) (fun c5 => ?_)
        · skip
          have hP9 := hP.sub (ws' := [(h0, .inr (11, [.ref st, .int 0, .int 0, .ref rp, .int 0, .int 0, .int 0, .int 0, .int 0, .int 0, .ref tp, .int 0, .int 0, .int 0, .int 0, .int 0, .int 0, .int 0, .int 0, .ref cu, .ref lt, .ref od, .ref th, .ref be, .ref ln, .int 0, .ref ma, .int 0, .ref ah, .ref bh, .ref ik, .ref la, .ref lg, .ref ce, .int 0])), (be, .inl (G 1, 770, .inr (.inl g)))]) [0, 1] rfl
          have hD9 := hD.sub (ws' := [(h0, .inr (11, [.ref st, .int 0, .int 0, .ref rp, .int 0, .int 0, .int 0, .int 0, .int 0, .int 0, .ref tp, .int 0, .int 0, .int 0, .int 0, .int 0, .int 0, .int 0, .int 0, .ref cu, .ref lt, .ref od, .ref th, .ref be, .ref ln, .int 0, .ref ma, .int 0, .ref ah, .ref bh, .ref ik, .ref la, .ref lg, .ref ce, .int 0])), (be, .inl (G 1, 770, .inr (.inl g)))]) [0, 1] (by decide) rfl
          refine W.widen (k := 0) (n := 0) (by omega) (by omega) ?_
          exact W.vret hx hb hr (fun t ht hW => ⟨⟨g, rfl, (hinv (by omega)), ⟨by rw [ht]; exact hP9, hD9⟩⟩, hS.F ht⟩) hS.2.2 dX11_layBest_235
        · skip
          exact absurd c5 (by decide)
      · skip
        have n6 : j < 70 := by have t := nleI c3; rw [nI_toInt (n := j) (by omega)] at t; have : (70 : Int32).toInt = 70 := (by decide); omega
        refine lv_aload_n hx hb dX11_layBest_8 rfl (lv_at hl 1 rfl) ?_
        refine va_get (D := (dC, dI)) (ci := 11) (v := .ref be) (C := RX11) (T := TX11) (N := 35) hx hb hg inG11 hown hK.1 hP 0 rfl rfl 23 (by decide) (hg _ wt_901) (fun _ h9 => h9) rfl dX11_layBest_9 ?_
        refine lv_bipush (v := 70) hx hb dX11_layBest_12 (by decide) ?_
        refine lv_aload_n hx hb dX11_layBest_14 rfl (lv_at hl 1 rfl) ?_
        refine va_get (D := (dC, dI)) (ci := 11) (v := .int 0) (C := RX11) (T := TX11) (N := 35) hx hb hg inG11 hown hK.1 hP 0 rfl rfl 1 (by decide) (hg _ wt_879) (fun _ h9 => h9) rfl dX11_layBest_15 ?_
        refine lv_imul hx hb dX11_layBest_18 ?_
        refine lv_cg (y := 0) (by decide) ?_
        refine lv_iload_n hx hb dX11_layBest_19 rfl (lv_at hl 0 rfl) ?_
        refine lv_iadd hx hb dX11_layBest_20 ?_
        refine lv_cg (y := nI j) (by rw [show (0 : Int32) = nI 0 from rfl, nI_add, Nat.zero_add]) ?_
        refine lv_iload_n hx hb dX11_layBest_21 rfl (lv_at hl 0 rfl) ?_
        refine lv_bipush (v := 10) hx hb dX11_layBest_22 (by decide) ?_
        refine lv_irem hx hb dX11_layBest_24 (by decide) ?_
        refine lv_cg (y := nI (j % 10)) (by rw [show (10 : Int32) = nI 10 from rfl]; exact pk_rem (by omega) (by omega) (by omega)) ?_
        refine lv_if_ne (tgt := 32) hx hb dX11_layBest_25 (by decide) (fun c7 => ?_) (fun c7 => ?_)
        · skip
          have n8 : (j % 10) ≠ 0 := by have t := neI c7; rw [nI_toInt (n := (j % 10)) (by omega)] at t; have : (0 : Int32).toInt = 0 := (by decide); omega
          refine lv_lconst (v := 0) hx hb dX11_layBest_32 (by decide) ?_
          refine va_last hx hb hK.1 hP hD hS 1 1 rfl rfl (vp_in_nI (by omega) (by decide)) dX11_layBest_33 (fun H locs hP hD hS => ?_)
          rw [nI_clamp (by omega)] at hP hD
          have hP : va_P (dC, dI) vwCl [(h0, .inr (11, [.ref st, .int 0, .int 0, .ref rp, .int 0, .int 0, .int 0, .int 0, .int 0, .int 0, .ref tp, .int 0, .int 0, .int 0, .int 0, .int 0, .int 0, .int 0, .int 0, .ref cu, .ref lt, .ref od, .ref th, .ref be, .ref ln, .int 0, .ref ma, .int 0, .ref ah, .ref bh, .ref ik, .ref la, .ref lg, .ref ce, .int 0])), (be, .inl (G 1, 770, .inr (.inl (vp_updL g j 0))))] H := hP
          have hD : va_D A [(h0, .inr (11, [.ref st, .int 0, .int 0, .ref rp, .int 0, .int 0, .int 0, .int 0, .int 0, .int 0, .ref tp, .int 0, .int 0, .int 0, .int 0, .int 0, .int 0, .int 0, .int 0, .ref cu, .ref lt, .ref od, .ref th, .ref be, .ref ln, .int 0, .ref ma, .int 0, .ref ah, .ref bh, .ref ik, .ref la, .ref lg, .ref ce, .int 0])), (be, .inl (G 1, 770, .inr (.inl (vp_updL g j 0))))] := hD
          refine lv_iinc (v := nI (j + 1)) (lv' := [(2, .int (nI (j + 1))), (0, .ref h0), (1, .int (-4))]) hx hb dX11_layBest_34 hl (k := 0) rfl (by rw [show Int32.ofInt 1 = nI 1 from by decide]; exact nI_add _ _) (by decide) rfl (fun ls hl => ?_)
          refine lv_goto (tgt := 2) hx hb dX11_layBest_37 (by decide) ?_
          exact ih2 ((j + 1)) (by omega) (by omega) (vp_updL g j 0) _ _ (fun h5 => if e5 : 5 = j then (by subst e5; first | rfl | (exfalso; omega)) else (pk_uLn e5).trans (hinv (by omega))) hP hD hS ls (lv_sub hl [0, 1, 2] rfl)
        · skip
          have n9 : (j % 10) = 0 := by have t := eqI c7; rw [nI_toInt (n := (j % 10)) (by omega)] at t; have : (0 : Int32).toInt = 0 := (by decide); omega
          refine lv_lconst (v := 1) hx hb dX11_layBest_28 (by decide) ?_
          refine lv_goto (tgt := 33) hx hb dX11_layBest_29 (by decide) ?_
          refine va_last hx hb hK.1 hP hD hS 1 1 rfl rfl (vp_in_nI (by omega) (by decide)) dX11_layBest_33 (fun H locs hP hD hS => ?_)
          rw [nI_clamp (by omega)] at hP hD
          have hP : va_P (dC, dI) vwCl [(h0, .inr (11, [.ref st, .int 0, .int 0, .ref rp, .int 0, .int 0, .int 0, .int 0, .int 0, .int 0, .ref tp, .int 0, .int 0, .int 0, .int 0, .int 0, .int 0, .int 0, .int 0, .ref cu, .ref lt, .ref od, .ref th, .ref be, .ref ln, .int 0, .ref ma, .int 0, .ref ah, .ref bh, .ref ik, .ref la, .ref lg, .ref ce, .int 0])), (be, .inl (G 1, 770, .inr (.inl (vp_updL g j 1))))] H := hP
          have hD : va_D A [(h0, .inr (11, [.ref st, .int 0, .int 0, .ref rp, .int 0, .int 0, .int 0, .int 0, .int 0, .int 0, .ref tp, .int 0, .int 0, .int 0, .int 0, .int 0, .int 0, .int 0, .int 0, .ref cu, .ref lt, .ref od, .ref th, .ref be, .ref ln, .int 0, .ref ma, .int 0, .ref ah, .ref bh, .ref ik, .ref la, .ref lg, .ref ce, .int 0])), (be, .inl (G 1, 770, .inr (.inl (vp_updL g j 1))))] := hD
          refine lv_iinc (v := nI (j + 1)) (lv' := [(2, .int (nI (j + 1))), (0, .ref h0), (1, .int (-4))]) hx hb dX11_layBest_34 hl (k := 0) rfl (by rw [show Int32.ofInt 1 = nI 1 from by decide]; exact nI_add _ _) (by decide) rfl (fun ls hl => ?_)
          refine lv_goto (tgt := 2) hx hb dX11_layBest_37 (by decide) ?_
          exact ih2 ((j + 1)) (by omega) (by omega) (vp_updL g j 1) _ _ (fun h5 => if e5 : 5 = j then (by subst e5; first | rfl | (exfalso; omega)) else (pk_uLn e5).trans (hinv (by omega))) hP hD hS ls (lv_sub hl [0, 1, 2] rfl)
  exact loop2 (70 + 1) 0 (by omega) (by omega) f _ _ (fun h => absurd h (by omega)) hP hD hS ls (lv_sub hl [0, 1, 2] rfl)

set_option maxHeartbeats 4000000 in
set_option maxRecDepth 100000 in
theorem c_X11_bitsOf (l : Launch) (dC : Nat → ClassId) (dI : Nat → Nat → Nat) (G : Nat → ClassId) (sz : Nat)     : Met l yX11_bitsOf (Cond.code yX11_bitsOf cX11_bitsOf 3 (some .int) :: GT) ({ frames := 0, cells := 0, slots := 0, locals := 0 } : Room) (PcR [.int 0] dC dI G [] sz) (va_Qi (fun (r : Int32) (u : Unit) => match u with | _ => (r = 0) ∧ True) (fun _ _ => True) (fun q : Nat => sz ≤ q)) 0 0 (fun q : Nat => sz ≤ q) := by
  refine Met.ofW (cc := cX11_bitsOf) (maxL := 3) (ret := (some .int)) (by decide) rfl ?_
  intro p e s m args below meth c s₁ B hml hv
  obtain ⟨rfl, hsz, hP, hK⟩ := hv
  have hx := B.exec
  have hb := B.bytes
  have hr := B.returns
  have hg : ∀ w ∈ GT, w.before ([.int 0] : List Value).toArray s = true := fun w h => atoms_spec (ws := Cond.code yX11_bitsOf cX11_bitsOf 3 (some .int) :: GT) B.pre w (List.mem_cons_of_mem _ h)
  have hown : s.vm.findClass RX11 = some m.cls := findClass_of_methodNamed B.named
  have hlocks := B.notSynchronized
  subst hsz
  have hA : ∀ q : Nat, s.heap.size ≤ q → (fun q : Nat => s.heap.size ≤ q) q := fun _ h => h
  have hS : va_S (fun q : Nat => s.heap.size ≤ q) s.heap s.heap [] := va_S.rf
  have hl := lv_entry ([.int 0]) (n := 3) (Nat.le_of_ble_eq_true rfl)
  rw [lg_entry_eq]
  generalize (lg_sl ([.int 0]) ++ List.replicate (3 - (lg_sl ([.int 0])).length) Slot.unset).toArray = ls at hl ⊢
  have hl : lv_has ls 3 [(0, .int 0)] := hl
  refine lv_iconst (v := 0) hx hb dX11_bitsOf_0 (by decide) ?_
  refine lv_istore_n (lv' := [(1, .int 0), (0, .int 0)]) hx hb dX11_bitsOf_1 rfl hl (by decide) rfl (fun ls hl => ?_)
  refine lv_iconst (v := 0) hx hb dX11_bitsOf_2 (by decide) ?_
  refine lv_istore_n (lv' := [(2, .int 0), (1, .int 0), (0, .int 0)]) hx hb dX11_bitsOf_3 rfl hl (by decide) rfl (fun ls hl => ?_)
  refine lv_iload_n hx hb dX11_bitsOf_4 rfl (lv_at hl 0 rfl) ?_
  refine lv_bipush (v := 10) hx hb dX11_bitsOf_5 (by decide) ?_
  refine lv_icmp_ge (tgt := 24) hx hb dX11_bitsOf_7 (by decide) (fun c1 => ?_) (fun c1 => ?_)
  · skip
    exact absurd c1 (by decide)
  · skip
    refine lv_iload_n hx hb dX11_bitsOf_10 rfl (lv_at hl 1 rfl) ?_
    refine lv_iload_n hx hb dX11_bitsOf_11 rfl (lv_at hl 2 rfl) ?_
    refine lv_iload_n hx hb dX11_bitsOf_12 rfl (lv_at hl 0 rfl) ?_
    refine lv_ishr hx hb dX11_bitsOf_13 ?_
    refine lv_cg (y := 0) (by decide) ?_
    refine lv_iconst (v := 1) hx hb dX11_bitsOf_14 (by decide) ?_
    refine lv_iand hx hb dX11_bitsOf_15 ?_
    refine lv_cg (y := 0) (by decide) ?_
    refine lv_iadd hx hb dX11_bitsOf_16 ?_
    refine lv_cg (y := 0) (by decide) ?_
    refine lv_istore_n (lv' := [(1, .int 0), (2, .int 0), (0, .int 0)]) hx hb dX11_bitsOf_17 rfl hl (by decide) rfl (fun ls hl => ?_)
    refine lv_iinc (v := 1) (lv' := [(2, .int 1), (1, .int 0), (0, .int 0)]) hx hb dX11_bitsOf_18 hl (k := 1) rfl (by decide) (by decide) rfl (fun ls hl => ?_)
    refine lv_goto (tgt := 4) hx hb dX11_bitsOf_21 (by decide) ?_
    refine lv_iload_n hx hb dX11_bitsOf_4 rfl (lv_at hl 0 rfl) ?_
    refine lv_bipush (v := 10) hx hb dX11_bitsOf_5 (by decide) ?_
    refine lv_icmp_ge (tgt := 24) hx hb dX11_bitsOf_7 (by decide) (fun c2 => ?_) (fun c2 => ?_)
    · skip
      exact absurd c2 (by decide)
    · skip
      refine lv_iload_n hx hb dX11_bitsOf_10 rfl (lv_at hl 1 rfl) ?_
      refine lv_iload_n hx hb dX11_bitsOf_11 rfl (lv_at hl 2 rfl) ?_
      refine lv_iload_n hx hb dX11_bitsOf_12 rfl (lv_at hl 0 rfl) ?_
      refine lv_ishr hx hb dX11_bitsOf_13 ?_
      refine lv_cg (y := 0) (by decide) ?_
      refine lv_iconst (v := 1) hx hb dX11_bitsOf_14 (by decide) ?_
      refine lv_iand hx hb dX11_bitsOf_15 ?_
      refine lv_cg (y := 0) (by decide) ?_
      refine lv_iadd hx hb dX11_bitsOf_16 ?_
      refine lv_cg (y := 0) (by decide) ?_
      refine lv_istore_n (lv' := [(1, .int 0), (2, .int 1), (0, .int 0)]) hx hb dX11_bitsOf_17 rfl hl (by decide) rfl (fun ls hl => ?_)
      refine lv_iinc (v := 2) (lv' := [(2, .int 2), (1, .int 0), (0, .int 0)]) hx hb dX11_bitsOf_18 hl (k := 1) rfl (by decide) (by decide) rfl (fun ls hl => ?_)
      refine lv_goto (tgt := 4) hx hb dX11_bitsOf_21 (by decide) ?_
      refine lv_iload_n hx hb dX11_bitsOf_4 rfl (lv_at hl 0 rfl) ?_
      refine lv_bipush (v := 10) hx hb dX11_bitsOf_5 (by decide) ?_
      refine lv_icmp_ge (tgt := 24) hx hb dX11_bitsOf_7 (by decide) (fun c3 => ?_) (fun c3 => ?_)
      · skip
        exact absurd c3 (by decide)
      · skip
        refine lv_iload_n hx hb dX11_bitsOf_10 rfl (lv_at hl 1 rfl) ?_
        refine lv_iload_n hx hb dX11_bitsOf_11 rfl (lv_at hl 2 rfl) ?_
        refine lv_iload_n hx hb dX11_bitsOf_12 rfl (lv_at hl 0 rfl) ?_
        refine lv_ishr hx hb dX11_bitsOf_13 ?_
        refine lv_cg (y := 0) (by decide) ?_
        refine lv_iconst (v := 1) hx hb dX11_bitsOf_14 (by decide) ?_
        refine lv_iand hx hb dX11_bitsOf_15 ?_
        refine lv_cg (y := 0) (by decide) ?_
        refine lv_iadd hx hb dX11_bitsOf_16 ?_
        refine lv_cg (y := 0) (by decide) ?_
        refine lv_istore_n (lv' := [(1, .int 0), (2, .int 2), (0, .int 0)]) hx hb dX11_bitsOf_17 rfl hl (by decide) rfl (fun ls hl => ?_)
        refine lv_iinc (v := 3) (lv' := [(2, .int 3), (1, .int 0), (0, .int 0)]) hx hb dX11_bitsOf_18 hl (k := 1) rfl (by decide) (by decide) rfl (fun ls hl => ?_)
        refine lv_goto (tgt := 4) hx hb dX11_bitsOf_21 (by decide) ?_
        refine lv_iload_n hx hb dX11_bitsOf_4 rfl (lv_at hl 0 rfl) ?_
        refine lv_bipush (v := 10) hx hb dX11_bitsOf_5 (by decide) ?_
        refine lv_icmp_ge (tgt := 24) hx hb dX11_bitsOf_7 (by decide) (fun c4 => ?_) (fun c4 => ?_)
        · skip
          exact absurd c4 (by decide)
        · skip
          refine lv_iload_n hx hb dX11_bitsOf_10 rfl (lv_at hl 1 rfl) ?_
          refine lv_iload_n hx hb dX11_bitsOf_11 rfl (lv_at hl 2 rfl) ?_
          refine lv_iload_n hx hb dX11_bitsOf_12 rfl (lv_at hl 0 rfl) ?_
          refine lv_ishr hx hb dX11_bitsOf_13 ?_
          refine lv_cg (y := 0) (by decide) ?_
          refine lv_iconst (v := 1) hx hb dX11_bitsOf_14 (by decide) ?_
          refine lv_iand hx hb dX11_bitsOf_15 ?_
          refine lv_cg (y := 0) (by decide) ?_
          refine lv_iadd hx hb dX11_bitsOf_16 ?_
          refine lv_cg (y := 0) (by decide) ?_
          refine lv_istore_n (lv' := [(1, .int 0), (2, .int 3), (0, .int 0)]) hx hb dX11_bitsOf_17 rfl hl (by decide) rfl (fun ls hl => ?_)
          refine lv_iinc (v := 4) (lv' := [(2, .int 4), (1, .int 0), (0, .int 0)]) hx hb dX11_bitsOf_18 hl (k := 1) rfl (by decide) (by decide) rfl (fun ls hl => ?_)
          refine lv_goto (tgt := 4) hx hb dX11_bitsOf_21 (by decide) ?_
          refine lv_iload_n hx hb dX11_bitsOf_4 rfl (lv_at hl 0 rfl) ?_
          refine lv_bipush (v := 10) hx hb dX11_bitsOf_5 (by decide) ?_
          refine lv_icmp_ge (tgt := 24) hx hb dX11_bitsOf_7 (by decide) (fun c5 => ?_) (fun c5 => ?_)
          · skip
            exact absurd c5 (by decide)
          · skip
            refine lv_iload_n hx hb dX11_bitsOf_10 rfl (lv_at hl 1 rfl) ?_
            refine lv_iload_n hx hb dX11_bitsOf_11 rfl (lv_at hl 2 rfl) ?_
            refine lv_iload_n hx hb dX11_bitsOf_12 rfl (lv_at hl 0 rfl) ?_
            refine lv_ishr hx hb dX11_bitsOf_13 ?_
            refine lv_cg (y := 0) (by decide) ?_
            refine lv_iconst (v := 1) hx hb dX11_bitsOf_14 (by decide) ?_
            refine lv_iand hx hb dX11_bitsOf_15 ?_
            refine lv_cg (y := 0) (by decide) ?_
            refine lv_iadd hx hb dX11_bitsOf_16 ?_
            refine lv_cg (y := 0) (by decide) ?_
            refine lv_istore_n (lv' := [(1, .int 0), (2, .int 4), (0, .int 0)]) hx hb dX11_bitsOf_17 rfl hl (by decide) rfl (fun ls hl => ?_)
            refine lv_iinc (v := 5) (lv' := [(2, .int 5), (1, .int 0), (0, .int 0)]) hx hb dX11_bitsOf_18 hl (k := 1) rfl (by decide) (by decide) rfl (fun ls hl => ?_)
            refine lv_goto (tgt := 4) hx hb dX11_bitsOf_21 (by decide) ?_
            refine lv_iload_n hx hb dX11_bitsOf_4 rfl (lv_at hl 0 rfl) ?_
            refine lv_bipush (v := 10) hx hb dX11_bitsOf_5 (by decide) ?_
            refine lv_icmp_ge (tgt := 24) hx hb dX11_bitsOf_7 (by decide) (fun c6 => ?_) (fun c6 => ?_)
            · skip
              exact absurd c6 (by decide)
            · skip
              refine lv_iload_n hx hb dX11_bitsOf_10 rfl (lv_at hl 1 rfl) ?_
              refine lv_iload_n hx hb dX11_bitsOf_11 rfl (lv_at hl 2 rfl) ?_
              refine lv_iload_n hx hb dX11_bitsOf_12 rfl (lv_at hl 0 rfl) ?_
              refine lv_ishr hx hb dX11_bitsOf_13 ?_
              refine lv_cg (y := 0) (by decide) ?_
              refine lv_iconst (v := 1) hx hb dX11_bitsOf_14 (by decide) ?_
              refine lv_iand hx hb dX11_bitsOf_15 ?_
              refine lv_cg (y := 0) (by decide) ?_
              refine lv_iadd hx hb dX11_bitsOf_16 ?_
              refine lv_cg (y := 0) (by decide) ?_
              refine lv_istore_n (lv' := [(1, .int 0), (2, .int 5), (0, .int 0)]) hx hb dX11_bitsOf_17 rfl hl (by decide) rfl (fun ls hl => ?_)
              refine lv_iinc (v := 6) (lv' := [(2, .int 6), (1, .int 0), (0, .int 0)]) hx hb dX11_bitsOf_18 hl (k := 1) rfl (by decide) (by decide) rfl (fun ls hl => ?_)
              refine lv_goto (tgt := 4) hx hb dX11_bitsOf_21 (by decide) ?_
              refine lv_iload_n hx hb dX11_bitsOf_4 rfl (lv_at hl 0 rfl) ?_
              refine lv_bipush (v := 10) hx hb dX11_bitsOf_5 (by decide) ?_
              refine lv_icmp_ge (tgt := 24) hx hb dX11_bitsOf_7 (by decide) (fun c7 => ?_) (fun c7 => ?_)
              · skip
                exact absurd c7 (by decide)
              · skip
                refine lv_iload_n hx hb dX11_bitsOf_10 rfl (lv_at hl 1 rfl) ?_
                refine lv_iload_n hx hb dX11_bitsOf_11 rfl (lv_at hl 2 rfl) ?_
                refine lv_iload_n hx hb dX11_bitsOf_12 rfl (lv_at hl 0 rfl) ?_
                refine lv_ishr hx hb dX11_bitsOf_13 ?_
                refine lv_cg (y := 0) (by decide) ?_
                refine lv_iconst (v := 1) hx hb dX11_bitsOf_14 (by decide) ?_
                refine lv_iand hx hb dX11_bitsOf_15 ?_
                refine lv_cg (y := 0) (by decide) ?_
                refine lv_iadd hx hb dX11_bitsOf_16 ?_
                refine lv_cg (y := 0) (by decide) ?_
                refine lv_istore_n (lv' := [(1, .int 0), (2, .int 6), (0, .int 0)]) hx hb dX11_bitsOf_17 rfl hl (by decide) rfl (fun ls hl => ?_)
                refine lv_iinc (v := 7) (lv' := [(2, .int 7), (1, .int 0), (0, .int 0)]) hx hb dX11_bitsOf_18 hl (k := 1) rfl (by decide) (by decide) rfl (fun ls hl => ?_)
                refine lv_goto (tgt := 4) hx hb dX11_bitsOf_21 (by decide) ?_
                refine lv_iload_n hx hb dX11_bitsOf_4 rfl (lv_at hl 0 rfl) ?_
                refine lv_bipush (v := 10) hx hb dX11_bitsOf_5 (by decide) ?_
                refine lv_icmp_ge (tgt := 24) hx hb dX11_bitsOf_7 (by decide) (fun c8 => ?_) (fun c8 => ?_)
                · skip
                  exact absurd c8 (by decide)
                · skip
                  refine lv_iload_n hx hb dX11_bitsOf_10 rfl (lv_at hl 1 rfl) ?_
                  refine lv_iload_n hx hb dX11_bitsOf_11 rfl (lv_at hl 2 rfl) ?_
                  refine lv_iload_n hx hb dX11_bitsOf_12 rfl (lv_at hl 0 rfl) ?_
                  refine lv_ishr hx hb dX11_bitsOf_13 ?_
                  refine lv_cg (y := 0) (by decide) ?_
                  refine lv_iconst (v := 1) hx hb dX11_bitsOf_14 (by decide) ?_
                  refine lv_iand hx hb dX11_bitsOf_15 ?_
                  refine lv_cg (y := 0) (by decide) ?_
                  refine lv_iadd hx hb dX11_bitsOf_16 ?_
                  refine lv_cg (y := 0) (by decide) ?_
                  refine lv_istore_n (lv' := [(1, .int 0), (2, .int 7), (0, .int 0)]) hx hb dX11_bitsOf_17 rfl hl (by decide) rfl (fun ls hl => ?_)
                  refine lv_iinc (v := 8) (lv' := [(2, .int 8), (1, .int 0), (0, .int 0)]) hx hb dX11_bitsOf_18 hl (k := 1) rfl (by decide) (by decide) rfl (fun ls hl => ?_)
                  refine lv_goto (tgt := 4) hx hb dX11_bitsOf_21 (by decide) ?_
                  refine lv_iload_n hx hb dX11_bitsOf_4 rfl (lv_at hl 0 rfl) ?_
                  refine lv_bipush (v := 10) hx hb dX11_bitsOf_5 (by decide) ?_
                  refine lv_icmp_ge (tgt := 24) hx hb dX11_bitsOf_7 (by decide) (fun c9 => ?_) (fun c9 => ?_)
                  · skip
                    exact absurd c9 (by decide)
                  · skip
                    refine lv_iload_n hx hb dX11_bitsOf_10 rfl (lv_at hl 1 rfl) ?_
                    refine lv_iload_n hx hb dX11_bitsOf_11 rfl (lv_at hl 2 rfl) ?_
                    refine lv_iload_n hx hb dX11_bitsOf_12 rfl (lv_at hl 0 rfl) ?_
                    refine lv_ishr hx hb dX11_bitsOf_13 ?_
                    refine lv_cg (y := 0) (by decide) ?_
                    refine lv_iconst (v := 1) hx hb dX11_bitsOf_14 (by decide) ?_
                    refine lv_iand hx hb dX11_bitsOf_15 ?_
                    refine lv_cg (y := 0) (by decide) ?_
                    refine lv_iadd hx hb dX11_bitsOf_16 ?_
                    refine lv_cg (y := 0) (by decide) ?_
                    refine lv_istore_n (lv' := [(1, .int 0), (2, .int 8), (0, .int 0)]) hx hb dX11_bitsOf_17 rfl hl (by decide) rfl (fun ls hl => ?_)
                    refine lv_iinc (v := 9) (lv' := [(2, .int 9), (1, .int 0), (0, .int 0)]) hx hb dX11_bitsOf_18 hl (k := 1) rfl (by decide) (by decide) rfl (fun ls hl => ?_)
                    refine lv_goto (tgt := 4) hx hb dX11_bitsOf_21 (by decide) ?_
                    refine lv_iload_n hx hb dX11_bitsOf_4 rfl (lv_at hl 0 rfl) ?_
                    refine lv_bipush (v := 10) hx hb dX11_bitsOf_5 (by decide) ?_
                    refine lv_icmp_ge (tgt := 24) hx hb dX11_bitsOf_7 (by decide) (fun c10 => ?_) (fun c10 => ?_)
                    · skip
                      exact absurd c10 (by decide)
                    · skip
                      refine lv_iload_n hx hb dX11_bitsOf_10 rfl (lv_at hl 1 rfl) ?_
                      refine lv_iload_n hx hb dX11_bitsOf_11 rfl (lv_at hl 2 rfl) ?_
                      refine lv_iload_n hx hb dX11_bitsOf_12 rfl (lv_at hl 0 rfl) ?_
                      refine lv_ishr hx hb dX11_bitsOf_13 ?_
                      refine lv_cg (y := 0) (by decide) ?_
                      refine lv_iconst (v := 1) hx hb dX11_bitsOf_14 (by decide) ?_
                      refine lv_iand hx hb dX11_bitsOf_15 ?_
                      refine lv_cg (y := 0) (by decide) ?_
                      refine lv_iadd hx hb dX11_bitsOf_16 ?_
                      refine lv_cg (y := 0) (by decide) ?_
                      refine lv_istore_n (lv' := [(1, .int 0), (2, .int 9), (0, .int 0)]) hx hb dX11_bitsOf_17 rfl hl (by decide) rfl (fun ls hl => ?_)
                      refine lv_iinc (v := 10) (lv' := [(2, .int 10), (1, .int 0), (0, .int 0)]) hx hb dX11_bitsOf_18 hl (k := 1) rfl (by decide) (by decide) rfl (fun ls hl => ?_)
                      refine lv_goto (tgt := 4) hx hb dX11_bitsOf_21 (by decide) ?_
                      refine lv_iload_n hx hb dX11_bitsOf_4 rfl (lv_at hl 0 rfl) ?_
                      refine lv_bipush (v := 10) hx hb dX11_bitsOf_5 (by decide) ?_
                      refine lv_icmp_ge (tgt := 24) hx hb dX11_bitsOf_7 (by decide) (fun c11 => ?_) (fun c11 => ?_)
                      · skip
                        refine lv_iload_n hx hb dX11_bitsOf_24 rfl (lv_at hl 1 rfl) ?_
                        have hpost : (0 : Int32) = 0 := by
                          have t_c1 := nleI c1
                          have t_c2 := nleI c2
                          have t_c3 := nleI c3
                          have t_c4 := nleI c4
                          have t_c5 := nleI c5
                          have t_c6 := nleI c6
                          have t_c7 := nleI c7
                          have t_c8 := nleI c8
                          have t_c9 := nleI c9
                          have t_c10 := nleI c10
                          have t_c11 := leI c11
                          have : (0 : Int32).toInt = 0 := (by decide)
                          have : (1 : Int32).toInt = 1 := (by decide)
                          have : (2 : Int32).toInt = 2 := (by decide)
                          have : (3 : Int32).toInt = 3 := (by decide)
                          have : (4 : Int32).toInt = 4 := (by decide)
                          have : (5 : Int32).toInt = 5 := (by decide)
                          have : (6 : Int32).toInt = 6 := (by decide)
                          have : (7 : Int32).toInt = 7 := (by decide)
                          have : (8 : Int32).toInt = 8 := (by decide)
                          have : (9 : Int32).toInt = 9 := (by decide)
                          have : (10 : Int32).toInt = 10 := (by decide)
                          first | rfl | ((repeat' split) <;> first | rfl | omega)
                        refine W.widen (k := 0) (n := 0) (by omega) (by omega) ?_
                        exact W.iret (v := 0) hx hb hr (fun t ht hW => ⟨⟨0, (), rfl, ⟨hpost, trivial⟩, trivial⟩, hS.F ht⟩) hS.2.2 dX11_bitsOf_25
                      · skip
                        exact absurd c11 (by decide)

set_option maxHeartbeats 4000000 in
set_option maxRecDepth 100000 in
theorem c_X11_layPaths (l : Launch) (dC : Nat → ClassId) (dI : Nat → Nat → Nat) (G : Nat → ClassId) (sz : Nat) (h0 st rp tp cu lt od th be ln ma ah bh ik la lg ce : Nat) (fa : Nat → Int32) (fb : Nat → Int32)   : Met l yX11_layPaths (Cond.code yX11_layPaths cX11_layPaths 6 none :: GT) ({ frames := 1, cells := 0, slots := 0, locals := 20 } : Room) (PcW [.ref h0] dC dI G [(h0, .inr (11, [.ref st, .int 0, .int 0, .ref rp, .int 0, .int 0, .int 0, .int 0, .int 0, .int 0, .ref tp, .int 0, .int 0, .int 0, .int 0, .int 0, .int 0, .int 0, .int 0, .ref cu, .ref lt, .ref od, .ref th, .ref be, .ref ln, .int 0, .ref ma, .int 0, .ref ah, .ref bh, .ref ik, .ref la, .ref lg, .ref ce, .int 0])), (st, .inl (G 0, 196, .inl (fun _ => 0))), (ah, .inl (G 0, 110, .inl fa)), (bh, .inl (G 0, 110, .inl fb))] sz) (va_Qv (fun (u : Nat → Int32) => match u with | u => u 5 = 1) (fun (u : Nat → Int32) (t : State) => match u with | u => va_P (dC, dI) vwCl [(h0, .inr (11, [.ref st, .int 0, .int 0, .ref rp, .int 0, .int 0, .int 0, .int 0, .int 0, .int 0, .ref tp, .int 0, .int 0, .int 0, .int 0, .int 0, .int 0, .int 0, .int 0, .ref cu, .ref lt, .ref od, .ref th, .ref be, .ref ln, .int 0, .ref ma, .int 0, .ref ah, .ref bh, .ref ik, .ref la, .ref lg, .ref ce, .int 0])), (st, .inl (G 0, 196, .inl (fun _ => 0))), (bh, .inl (G 0, 110, .inl u))] t.heap ∧ va_D (va_A [(h0, .inr (11, [.ref st, .int 0, .int 0, .ref rp, .int 0, .int 0, .int 0, .int 0, .int 0, .int 0, .ref tp, .int 0, .int 0, .int 0, .int 0, .int 0, .int 0, .int 0, .int 0, .ref cu, .ref lt, .ref od, .ref th, .ref be, .ref ln, .int 0, .ref ma, .int 0, .ref ah, .ref bh, .ref ik, .ref la, .ref lg, .ref ce, .int 0])), (st, .inl (G 0, 196, .inl (fun _ => 0))), (ah, .inl (G 0, 110, .inl fa)), (bh, .inl (G 0, 110, .inl fb))] sz) [(h0, .inr (11, [.ref st, .int 0, .int 0, .ref rp, .int 0, .int 0, .int 0, .int 0, .int 0, .int 0, .ref tp, .int 0, .int 0, .int 0, .int 0, .int 0, .int 0, .int 0, .int 0, .ref cu, .ref lt, .ref od, .ref th, .ref be, .ref ln, .int 0, .ref ma, .int 0, .ref ah, .ref bh, .ref ik, .ref la, .ref lg, .ref ce, .int 0])), (st, .inl (G 0, 196, .inl (fun _ => 0))), (bh, .inl (G 0, 110, .inl u))]) (va_A [(h0, .inr (11, [.ref st, .int 0, .int 0, .ref rp, .int 0, .int 0, .int 0, .int 0, .int 0, .int 0, .ref tp, .int 0, .int 0, .int 0, .int 0, .int 0, .int 0, .int 0, .int 0, .ref cu, .ref lt, .ref od, .ref th, .ref be, .ref ln, .int 0, .ref ma, .int 0, .ref ah, .ref bh, .ref ik, .ref la, .ref lg, .ref ce, .int 0])), (st, .inl (G 0, 196, .inl (fun _ => 0))), (ah, .inl (G 0, 110, .inl fa)), (bh, .inl (G 0, 110, .inl fb))] sz)) 0 0 (va_A [(h0, .inr (11, [.ref st, .int 0, .int 0, .ref rp, .int 0, .int 0, .int 0, .int 0, .int 0, .int 0, .ref tp, .int 0, .int 0, .int 0, .int 0, .int 0, .int 0, .int 0, .int 0, .ref cu, .ref lt, .ref od, .ref th, .ref be, .ref ln, .int 0, .ref ma, .int 0, .ref ah, .ref bh, .ref ik, .ref la, .ref lg, .ref ce, .int 0])), (st, .inl (G 0, 196, .inl (fun _ => 0))), (ah, .inl (G 0, 110, .inl fa)), (bh, .inl (G 0, 110, .inl fb))] sz) := by
  refine Met.ofW (cc := cX11_layPaths) (maxL := 6) (ret := none) (by decide) rfl ?_
  intro p e s m args below meth c s₁ B hml hv
  obtain ⟨rfl, hsz, hP, hK, hD0⟩ := hv
  have hx := B.exec
  have hb := B.bytes
  have hr := B.returns
  have hg : ∀ w ∈ GT, w.before ([.ref h0] : List Value).toArray s = true := fun w h => atoms_spec (ws := Cond.code yX11_layPaths cX11_layPaths 6 none :: GT) B.pre w (List.mem_cons_of_mem _ h)
  have hown : s.vm.findClass RX11 = some m.cls := findClass_of_methodNamed B.named
  have hlocks := B.notSynchronized
  subst hsz
  have hD := hD0.self (sz := s.heap.size)
  generalize hAe : va_A [(h0, .inr (11, [.ref st, .int 0, .int 0, .ref rp, .int 0, .int 0, .int 0, .int 0, .int 0, .int 0, .ref tp, .int 0, .int 0, .int 0, .int 0, .int 0, .int 0, .int 0, .int 0, .ref cu, .ref lt, .ref od, .ref th, .ref be, .ref ln, .int 0, .ref ma, .int 0, .ref ah, .ref bh, .ref ik, .ref la, .ref lg, .ref ce, .int 0])), (st, .inl (G 0, 196, .inl (fun _ => 0))), (ah, .inl (G 0, 110, .inl fa)), (bh, .inl (G 0, 110, .inl fb))] s.heap.size = A at hD ⊢
  have hA : ∀ q : Nat, s.heap.size ≤ q → A q := fun q h => by rw [← hAe]; exact Or.inr h
  have hS : va_S A s.heap s.heap [] := va_S.rf
  have hl := lv_entry ([.ref h0]) (n := 6) (Nat.le_of_ble_eq_true rfl)
  rw [lg_entry_eq]
  generalize (lg_sl ([.ref h0]) ++ List.replicate (6 - (lg_sl ([.ref h0])).length) Slot.unset).toArray = ls at hl ⊢
  have hl : lv_has ls 6 [(0, .ref h0)] := hl
  refine lv_iconst (v := 0) hx hb dX11_layPaths_0 (by decide) ?_
  refine lv_istore_n (lv' := [(1, .int 0), (0, .ref h0)]) hx hb dX11_layPaths_1 rfl hl (by decide) rfl (fun ls hl => ?_)
  have loop2 : ∀ (nf j : Nat), 110 + 1 ≤ j + nf → j ≤ 110 → ∀ (g : Nat → Int32) (g2 : Nat → Int32) (H : Heap) (locs : List Loc), (5 < j → g2 5 = 1) → va_P (dC, dI) vwCl [(h0, .inr (11, [.ref st, .int 0, .int 0, .ref rp, .int 0, .int 0, .int 0, .int 0, .int 0, .int 0, .ref tp, .int 0, .int 0, .int 0, .int 0, .int 0, .int 0, .int 0, .int 0, .ref cu, .ref lt, .ref od, .ref th, .ref be, .ref ln, .int 0, .ref ma, .int 0, .ref ah, .ref bh, .ref ik, .ref la, .ref lg, .ref ce, .int 0])), (st, .inl (G 0, 196, .inl (fun _ => 0))), (ah, .inl (G 0, 110, .inl g)), (bh, .inl (G 0, 110, .inl g2))] H → va_D A [(h0, .inr (11, [.ref st, .int 0, .int 0, .ref rp, .int 0, .int 0, .int 0, .int 0, .int 0, .int 0, .ref tp, .int 0, .int 0, .int 0, .int 0, .int 0, .int 0, .int 0, .int 0, .ref cu, .ref lt, .ref od, .ref th, .ref be, .ref ln, .int 0, .ref ma, .int 0, .ref ah, .ref bh, .ref ik, .ref la, .ref lg, .ref ce, .int 0])), (st, .inl (G 0, 196, .inl (fun _ => 0))), (ah, .inl (G 0, 110, .inl g)), (bh, .inl (G 0, 110, .inl g2))] → va_S A s.heap H locs → ∀ (ls : Array Slot), lv_has ls 6 [(1, .int (nI j)), (0, .ref h0)] → W p l e (headSpec (Cond.code yX11_layPaths cX11_layPaths 6 none :: GT) ({ frames := 1, cells := 0, slots := 0, locals := 20 } : Room)).room s m ([.ref h0] : List Value).toArray below meth c H locs 0 0 (MQ below (va_Qv (fun (u : Nat → Int32) => match u with | u => u 5 = 1) (fun (u : Nat → Int32) (t : State) => match u with | u => va_P (dC, dI) vwCl [(h0, .inr (11, [.ref st, .int 0, .int 0, .ref rp, .int 0, .int 0, .int 0, .int 0, .int 0, .int 0, .ref tp, .int 0, .int 0, .int 0, .int 0, .int 0, .int 0, .int 0, .int 0, .ref cu, .ref lt, .ref od, .ref th, .ref be, .ref ln, .int 0, .ref ma, .int 0, .ref ah, .ref bh, .ref ik, .ref la, .ref lg, .ref ce, .int 0])), (st, .inl (G 0, 196, .inl (fun _ => 0))), (bh, .inl (G 0, 110, .inl u))] t.heap ∧ va_D A [(h0, .inr (11, [.ref st, .int 0, .int 0, .ref rp, .int 0, .int 0, .int 0, .int 0, .int 0, .int 0, .ref tp, .int 0, .int 0, .int 0, .int 0, .int 0, .int 0, .int 0, .int 0, .ref cu, .ref lt, .ref od, .ref th, .ref be, .ref ln, .int 0, .ref ma, .int 0, .ref ah, .ref bh, .ref ik, .ref la, .ref lg, .ref ce, .int 0])), (st, .inl (G 0, 196, .inl (fun _ => 0))), (bh, .inl (G 0, 110, .inl u))]) A) ([.ref h0] : List Value).toArray s 0 0 A) (F0 m 2 ls []) := by
    intro nf
    induction nf with
    | zero => intro j h1 h2; exact absurd h1 (by omega)
    | succ nf ih2 =>
      intro j hn1 hj2 g g2 H locs hinv hP hD hS ls hl
      refine lv_iload_n hx hb dX11_layPaths_2 rfl (lv_at hl 0 rfl) ?_
      refine lv_bipush (v := 110) hx hb dX11_layPaths_3 (by decide) ?_
      refine lv_icmp_ge (tgt := 55) hx hb dX11_layPaths_5 (by decide) (fun c3 => ?_) (fun c3 => ?_)
      · skip
        have n4 : 110 ≤ j := by have t := leI c3; rw [nI_toInt (n := j) (by omega)] at t; have : (110 : Int32).toInt = 110 := (by decide); omega
        refine lv_iconst (v := 0) hx hb dX11_layPaths_55 (by decide) ?_
        refine lv_istore_n (lv' := [(1, .int 0), (0, .ref h0)]) hx hb dX11_layPaths_56 rfl hl (by decide) rfl (fun ls hl => ?_)
        refine lv_iload_n hx hb dX11_layPaths_57 rfl (lv_at hl 0 rfl) ?_
        refine lv_aload_n hx hb dX11_layPaths_58 rfl (lv_at hl 1 rfl) ?_
        refine va_get (D := (dC, dI)) (ci := 11) (v := .int 0) (C := RX11) (T := TX11) (N := 35) hx hb hg inG11 hown hK.1 hP 0 rfl rfl 1 (by decide) (hg _ wt_879) (fun _ h9 => h9) rfl dX11_layPaths_59 ?_
        refine lv_icmp_ge (tgt := 196) hx hb dX11_layPaths_62 (by decide) (fun c5 => ?_) (fun c5 => ?_)
        · skip
          refine lv_aload_n hx hb dX11_layPaths_196 rfl (lv_at hl 1 rfl) ?_
          refine va_get (D := (dC, dI)) (ci := 11) (v := .int 0) (C := RX11) (T := TX11) (N := 35) hx hb hg inG11 hown hK.1 hP 0 rfl rfl 1 (by decide) (hg _ wt_879) (fun _ h9 => h9) rfl dX11_layPaths_197 ?_
          refine lv_iconst (v := 1) hx hb dX11_layPaths_200 (by decide) ?_
          refine lv_isub hx hb dX11_layPaths_201 ?_
          refine lv_cg (y := (-1)) (by decide) ?_
          refine lv_istore_n (lv' := [(1, .int (-1)), (0, .ref h0)]) hx hb dX11_layPaths_202 rfl hl (by decide) rfl (fun ls hl => ?_)
          refine lv_iload_n hx hb dX11_layPaths_203 rfl (lv_at hl 0 rfl) ?_
          refine lv_if_lt (tgt := 281) hx hb dX11_layPaths_204 (by decide) (fun c6 => ?_) (fun c6 => ?_)
          · skip
            have hP9 := hP.sub (ws' := [(h0, .inr (11, [.ref st, .int 0, .int 0, .ref rp, .int 0, .int 0, .int 0, .int 0, .int 0, .int 0, .ref tp, .int 0, .int 0, .int 0, .int 0, .int 0, .int 0, .int 0, .int 0, .ref cu, .ref lt, .ref od, .ref th, .ref be, .ref ln, .int 0, .ref ma, .int 0, .ref ah, .ref bh, .ref ik, .ref la, .ref lg, .ref ce, .int 0])), (st, .inl (G 0, 196, .inl (fun _ => 0))), (bh, .inl (G 0, 110, .inl g2))]) [0, 1, 3] rfl
            have hD9 := hD.sub (ws' := [(h0, .inr (11, [.ref st, .int 0, .int 0, .ref rp, .int 0, .int 0, .int 0, .int 0, .int 0, .int 0, .ref tp, .int 0, .int 0, .int 0, .int 0, .int 0, .int 0, .int 0, .int 0, .ref cu, .ref lt, .ref od, .ref th, .ref be, .ref ln, .int 0, .ref ma, .int 0, .ref ah, .ref bh, .ref ik, .ref la, .ref lg, .ref ce, .int 0])), (st, .inl (G 0, 196, .inl (fun _ => 0))), (bh, .inl (G 0, 110, .inl g2))]) [0, 1, 3] (by decide) rfl
            refine W.widen (k := 0) (n := 0) (by omega) (by omega) ?_
            exact W.vret hx hb hr (fun t ht hW => ⟨⟨g2, rfl, (hinv (by omega)), ⟨by rw [ht]; exact hP9, hD9⟩⟩, hS.F ht⟩) hS.2.2 dX11_layPaths_281
          · skip
            exact absurd c6 (by decide)
        · skip
          exact absurd c5 (by decide)
      · skip
        have n7 : j < 110 := by have t := nleI c3; rw [nI_toInt (n := j) (by omega)] at t; have : (110 : Int32).toInt = 110 := (by decide); omega
        refine lv_aload_n hx hb dX11_layPaths_8 rfl (lv_at hl 1 rfl) ?_
        refine va_get (D := (dC, dI)) (ci := 11) (v := .ref ah) (C := RX11) (T := TX11) (N := 35) hx hb hg inG11 hown hK.1 hP 0 rfl rfl 28 (by decide) (hg _ wt_906) (fun _ h9 => h9) rfl dX11_layPaths_9 ?_
        refine lv_iload_n hx hb dX11_layPaths_12 rfl (lv_at hl 0 rfl) ?_
        refine lv_iload_n hx hb dX11_layPaths_13 rfl (lv_at hl 0 rfl) ?_
        refine lv_aload_n hx hb dX11_layPaths_14 rfl (lv_at hl 1 rfl) ?_
        have hPc := hP.sub (ws' := [(h0, .inr (11, [.ref st, .int 0, .int 0, .ref rp, .int 0, .int 0, .int 0, .int 0, .int 0, .int 0, .ref tp, .int 0, .int 0, .int 0, .int 0, .int 0, .int 0, .int 0, .int 0, .ref cu, .ref lt, .ref od, .ref th, .ref be, .ref ln, .int 0, .ref ma, .int 0, .ref ah, .ref bh, .ref ik, .ref la, .ref lg, .ref ce, .int 0])), (st, .inl (G 0, 196, .inl (fun _ => 0)))]) [0, 1] rfl
        refine va_calli (va_runV (As := []) (rest := [.int (nI j), .int (nI j), .ref ah]) ⟨hx, hb, hml, hown, hg⟩ (c_X11_startNow l dC dI G _ h0 st rp tp cu lt od th be ln ma ah bh ik la lg ce ) (kwV hg mfX11_startNow wt_1044 ⟨Nat.le_of_ble_eq_true rfl, Nat.le_of_ble_eq_true rfl⟩) (preVR hK hPc (ci := 11) rfl rfl) rfl rfl hl.1 rfl (lv_room (Nat.le_of_ble_eq_true rfl)) dX11_layPaths_15 ⟨Nat.le_of_ble_eq_true rfl, Nat.le_of_ble_eq_true rfl⟩) hS (fun q h1 h2 => absurd h2 (Nat.not_le.mpr h1)) (fun q h => hA q (Nat.le_trans hS.1 h)) (fun r8 ur8 t H1 locs ht hvm w9 hB hz1 hk1 hS => ?_)
        have hP := keepR hP hk1
        obtain ⟨w9, w9x⟩ := w9
        subst w9
        refine lv_icmp_ne (tgt := 25) hx hb dX11_layPaths_18 (by decide) (fun c10 => ?_) (fun c10 => ?_)
        · skip
          have n11 : j ≠ 5 := by have t := neI c10; rw [nI_toInt (n := j) (by omega)] at t; have : (5 : Int32).toInt = 5 := (by decide); omega
          refine lv_iconst (v := 0) hx hb dX11_layPaths_25 (by decide) ?_
          refine va_iast hx hb hK.1 hP hD hS 2 0 rfl rfl (vp_in_nI (by omega) (by decide)) dX11_layPaths_26 (fun H locs hP hD hS => ?_)
          rw [nI_clamp (by omega)] at hP hD
          have hP : va_P (dC, dI) vwCl [(h0, .inr (11, [.ref st, .int 0, .int 0, .ref rp, .int 0, .int 0, .int 0, .int 0, .int 0, .int 0, .ref tp, .int 0, .int 0, .int 0, .int 0, .int 0, .int 0, .int 0, .int 0, .ref cu, .ref lt, .ref od, .ref th, .ref be, .ref ln, .int 0, .ref ma, .int 0, .ref ah, .ref bh, .ref ik, .ref la, .ref lg, .ref ce, .int 0])), (st, .inl (G 0, 196, .inl (fun _ => 0))), (ah, .inl (G 0, 110, .inl (upd g j 0))), (bh, .inl (G 0, 110, .inl g2))] H := hP
          have hD : va_D A [(h0, .inr (11, [.ref st, .int 0, .int 0, .ref rp, .int 0, .int 0, .int 0, .int 0, .int 0, .int 0, .ref tp, .int 0, .int 0, .int 0, .int 0, .int 0, .int 0, .int 0, .int 0, .ref cu, .ref lt, .ref od, .ref th, .ref be, .ref ln, .int 0, .ref ma, .int 0, .ref ah, .ref bh, .ref ik, .ref la, .ref lg, .ref ce, .int 0])), (st, .inl (G 0, 196, .inl (fun _ => 0))), (ah, .inl (G 0, 110, .inl (upd g j 0))), (bh, .inl (G 0, 110, .inl g2))] := hD
          refine lv_aload_n hx hb dX11_layPaths_27 rfl (lv_at hl 1 rfl) ?_
          refine va_get (D := (dC, dI)) (ci := 11) (v := .ref bh) (C := RX11) (T := TX11) (N := 35) hx hb hg inG11 hown hK.1 hP 0 rfl rfl 29 (by decide) (hg _ wt_907) (fun _ h9 => h9) rfl dX11_layPaths_28 ?_
          refine lv_iload_n hx hb dX11_layPaths_31 rfl (lv_at hl 0 rfl) ?_
          refine lv_iload_n hx hb dX11_layPaths_32 rfl (lv_at hl 0 rfl) ?_
          refine lv_bipush (v := 10) hx hb dX11_layPaths_33 (by decide) ?_
          refine lv_idiv hx hb dX11_layPaths_35 (by decide) ?_
          refine lv_cg (y := nI (j / 10)) (by rw [show (10 : Int32) = nI 10 from rfl]; exact pk_div (by omega) (by omega) (by omega)) ?_
          refine lv_aload_n hx hb dX11_layPaths_36 rfl (lv_at hl 1 rfl) ?_
          refine va_get (D := (dC, dI)) (ci := 11) (v := .int 0) (C := RX11) (T := TX11) (N := 35) hx hb hg inG11 hown hK.1 hP 0 rfl rfl 1 (by decide) (hg _ wt_879) (fun _ h9 => h9) rfl dX11_layPaths_37 ?_
          refine lv_icmp_ne (tgt := 47) hx hb dX11_layPaths_40 (by decide) (fun c12 => ?_) (fun c12 => ?_)
          · skip
            have n13 : (j / 10) ≠ 0 := by have t := neI c12; rw [nI_toInt (n := (j / 10)) (by omega)] at t; have : (0 : Int32).toInt = 0 := (by decide); omega
            refine lv_iconst (v := 0) hx hb dX11_layPaths_47 (by decide) ?_
            refine va_iast hx hb hK.1 hP hD hS 3 0 rfl rfl (vp_in_nI (by omega) (by decide)) dX11_layPaths_48 (fun H locs hP hD hS => ?_)
            rw [nI_clamp (by omega)] at hP hD
            have hP : va_P (dC, dI) vwCl [(h0, .inr (11, [.ref st, .int 0, .int 0, .ref rp, .int 0, .int 0, .int 0, .int 0, .int 0, .int 0, .ref tp, .int 0, .int 0, .int 0, .int 0, .int 0, .int 0, .int 0, .int 0, .ref cu, .ref lt, .ref od, .ref th, .ref be, .ref ln, .int 0, .ref ma, .int 0, .ref ah, .ref bh, .ref ik, .ref la, .ref lg, .ref ce, .int 0])), (st, .inl (G 0, 196, .inl (fun _ => 0))), (ah, .inl (G 0, 110, .inl (upd g j 0))), (bh, .inl (G 0, 110, .inl (upd g2 j 0)))] H := hP
            have hD : va_D A [(h0, .inr (11, [.ref st, .int 0, .int 0, .ref rp, .int 0, .int 0, .int 0, .int 0, .int 0, .int 0, .ref tp, .int 0, .int 0, .int 0, .int 0, .int 0, .int 0, .int 0, .int 0, .ref cu, .ref lt, .ref od, .ref th, .ref be, .ref ln, .int 0, .ref ma, .int 0, .ref ah, .ref bh, .ref ik, .ref la, .ref lg, .ref ce, .int 0])), (st, .inl (G 0, 196, .inl (fun _ => 0))), (ah, .inl (G 0, 110, .inl (upd g j 0))), (bh, .inl (G 0, 110, .inl (upd g2 j 0)))] := hD
            refine lv_iinc (v := nI (j + 1)) (lv' := [(1, .int (nI (j + 1))), (0, .ref h0)]) hx hb dX11_layPaths_49 hl (k := 0) rfl (by rw [show Int32.ofInt 1 = nI 1 from by decide]; exact nI_add _ _) (by decide) rfl (fun ls hl => ?_)
            refine lv_goto (tgt := 2) hx hb dX11_layPaths_52 (by decide) ?_
            exact ih2 ((j + 1)) (by omega) (by omega) (upd g j 0) (upd g2 j 0) _ _ (fun h5 => if e5 : 5 = j then (by subst e5; first | rfl | (exfalso; omega)) else (pk_un e5).trans (hinv (by omega))) hP hD hS ls (lv_sub hl [0, 1] rfl)
          · skip
            have n14 : (j / 10) = 0 := by have t := eqI c12; rw [nI_toInt (n := (j / 10)) (by omega)] at t; have : (0 : Int32).toInt = 0 := (by decide); omega
            refine lv_iconst (v := 1) hx hb dX11_layPaths_43 (by decide) ?_
            refine lv_goto (tgt := 48) hx hb dX11_layPaths_44 (by decide) ?_
            refine va_iast hx hb hK.1 hP hD hS 3 0 rfl rfl (vp_in_nI (by omega) (by decide)) dX11_layPaths_48 (fun H locs hP hD hS => ?_)
            rw [nI_clamp (by omega)] at hP hD
            have hP : va_P (dC, dI) vwCl [(h0, .inr (11, [.ref st, .int 0, .int 0, .ref rp, .int 0, .int 0, .int 0, .int 0, .int 0, .int 0, .ref tp, .int 0, .int 0, .int 0, .int 0, .int 0, .int 0, .int 0, .int 0, .ref cu, .ref lt, .ref od, .ref th, .ref be, .ref ln, .int 0, .ref ma, .int 0, .ref ah, .ref bh, .ref ik, .ref la, .ref lg, .ref ce, .int 0])), (st, .inl (G 0, 196, .inl (fun _ => 0))), (ah, .inl (G 0, 110, .inl (upd g j 0))), (bh, .inl (G 0, 110, .inl (upd g2 j 1)))] H := hP
            have hD : va_D A [(h0, .inr (11, [.ref st, .int 0, .int 0, .ref rp, .int 0, .int 0, .int 0, .int 0, .int 0, .int 0, .ref tp, .int 0, .int 0, .int 0, .int 0, .int 0, .int 0, .int 0, .int 0, .ref cu, .ref lt, .ref od, .ref th, .ref be, .ref ln, .int 0, .ref ma, .int 0, .ref ah, .ref bh, .ref ik, .ref la, .ref lg, .ref ce, .int 0])), (st, .inl (G 0, 196, .inl (fun _ => 0))), (ah, .inl (G 0, 110, .inl (upd g j 0))), (bh, .inl (G 0, 110, .inl (upd g2 j 1)))] := hD
            refine lv_iinc (v := nI (j + 1)) (lv' := [(1, .int (nI (j + 1))), (0, .ref h0)]) hx hb dX11_layPaths_49 hl (k := 0) rfl (by rw [show Int32.ofInt 1 = nI 1 from by decide]; exact nI_add _ _) (by decide) rfl (fun ls hl => ?_)
            refine lv_goto (tgt := 2) hx hb dX11_layPaths_52 (by decide) ?_
            exact ih2 ((j + 1)) (by omega) (by omega) (upd g j 0) (upd g2 j 1) _ _ (fun h5 => if e5 : 5 = j then (by subst e5; first | rfl | (exfalso; omega)) else (pk_un e5).trans (hinv (by omega))) hP hD hS ls (lv_sub hl [0, 1] rfl)
        · skip
          have n15 : j = 5 := by have t := eqI c10; rw [nI_toInt (n := j) (by omega)] at t; have : (5 : Int32).toInt = 5 := (by decide); omega
          refine lv_iconst (v := 1) hx hb dX11_layPaths_21 (by decide) ?_
          refine lv_goto (tgt := 26) hx hb dX11_layPaths_22 (by decide) ?_
          refine va_iast hx hb hK.1 hP hD hS 2 0 rfl rfl (vp_in_nI (by omega) (by decide)) dX11_layPaths_26 (fun H locs hP hD hS => ?_)
          rw [nI_clamp (by omega)] at hP hD
          have hP : va_P (dC, dI) vwCl [(h0, .inr (11, [.ref st, .int 0, .int 0, .ref rp, .int 0, .int 0, .int 0, .int 0, .int 0, .int 0, .ref tp, .int 0, .int 0, .int 0, .int 0, .int 0, .int 0, .int 0, .int 0, .ref cu, .ref lt, .ref od, .ref th, .ref be, .ref ln, .int 0, .ref ma, .int 0, .ref ah, .ref bh, .ref ik, .ref la, .ref lg, .ref ce, .int 0])), (st, .inl (G 0, 196, .inl (fun _ => 0))), (ah, .inl (G 0, 110, .inl (upd g j 1))), (bh, .inl (G 0, 110, .inl g2))] H := hP
          have hD : va_D A [(h0, .inr (11, [.ref st, .int 0, .int 0, .ref rp, .int 0, .int 0, .int 0, .int 0, .int 0, .int 0, .ref tp, .int 0, .int 0, .int 0, .int 0, .int 0, .int 0, .int 0, .int 0, .ref cu, .ref lt, .ref od, .ref th, .ref be, .ref ln, .int 0, .ref ma, .int 0, .ref ah, .ref bh, .ref ik, .ref la, .ref lg, .ref ce, .int 0])), (st, .inl (G 0, 196, .inl (fun _ => 0))), (ah, .inl (G 0, 110, .inl (upd g j 1))), (bh, .inl (G 0, 110, .inl g2))] := hD
          refine lv_aload_n hx hb dX11_layPaths_27 rfl (lv_at hl 1 rfl) ?_
          refine va_get (D := (dC, dI)) (ci := 11) (v := .ref bh) (C := RX11) (T := TX11) (N := 35) hx hb hg inG11 hown hK.1 hP 0 rfl rfl 29 (by decide) (hg _ wt_907) (fun _ h9 => h9) rfl dX11_layPaths_28 ?_
          refine lv_iload_n hx hb dX11_layPaths_31 rfl (lv_at hl 0 rfl) ?_
          refine lv_iload_n hx hb dX11_layPaths_32 rfl (lv_at hl 0 rfl) ?_
          refine lv_bipush (v := 10) hx hb dX11_layPaths_33 (by decide) ?_
          refine lv_idiv hx hb dX11_layPaths_35 (by decide) ?_
          refine lv_cg (y := nI (j / 10)) (by rw [show (10 : Int32) = nI 10 from rfl]; exact pk_div (by omega) (by omega) (by omega)) ?_
          refine lv_aload_n hx hb dX11_layPaths_36 rfl (lv_at hl 1 rfl) ?_
          refine va_get (D := (dC, dI)) (ci := 11) (v := .int 0) (C := RX11) (T := TX11) (N := 35) hx hb hg inG11 hown hK.1 hP 0 rfl rfl 1 (by decide) (hg _ wt_879) (fun _ h9 => h9) rfl dX11_layPaths_37 ?_
          refine lv_icmp_ne (tgt := 47) hx hb dX11_layPaths_40 (by decide) (fun c16 => ?_) (fun c16 => ?_)
          · skip
            have n17 : (j / 10) ≠ 0 := by have t := neI c16; rw [nI_toInt (n := (j / 10)) (by omega)] at t; have : (0 : Int32).toInt = 0 := (by decide); omega
            refine lv_iconst (v := 0) hx hb dX11_layPaths_47 (by decide) ?_
            refine va_iast hx hb hK.1 hP hD hS 3 0 rfl rfl (vp_in_nI (by omega) (by decide)) dX11_layPaths_48 (fun H locs hP hD hS => ?_)
            rw [nI_clamp (by omega)] at hP hD
            have hP : va_P (dC, dI) vwCl [(h0, .inr (11, [.ref st, .int 0, .int 0, .ref rp, .int 0, .int 0, .int 0, .int 0, .int 0, .int 0, .ref tp, .int 0, .int 0, .int 0, .int 0, .int 0, .int 0, .int 0, .int 0, .ref cu, .ref lt, .ref od, .ref th, .ref be, .ref ln, .int 0, .ref ma, .int 0, .ref ah, .ref bh, .ref ik, .ref la, .ref lg, .ref ce, .int 0])), (st, .inl (G 0, 196, .inl (fun _ => 0))), (ah, .inl (G 0, 110, .inl (upd g j 1))), (bh, .inl (G 0, 110, .inl (upd g2 j 0)))] H := hP
            have hD : va_D A [(h0, .inr (11, [.ref st, .int 0, .int 0, .ref rp, .int 0, .int 0, .int 0, .int 0, .int 0, .int 0, .ref tp, .int 0, .int 0, .int 0, .int 0, .int 0, .int 0, .int 0, .int 0, .ref cu, .ref lt, .ref od, .ref th, .ref be, .ref ln, .int 0, .ref ma, .int 0, .ref ah, .ref bh, .ref ik, .ref la, .ref lg, .ref ce, .int 0])), (st, .inl (G 0, 196, .inl (fun _ => 0))), (ah, .inl (G 0, 110, .inl (upd g j 1))), (bh, .inl (G 0, 110, .inl (upd g2 j 0)))] := hD
            refine lv_iinc (v := nI (j + 1)) (lv' := [(1, .int (nI (j + 1))), (0, .ref h0)]) hx hb dX11_layPaths_49 hl (k := 0) rfl (by rw [show Int32.ofInt 1 = nI 1 from by decide]; exact nI_add _ _) (by decide) rfl (fun ls hl => ?_)
            refine lv_goto (tgt := 2) hx hb dX11_layPaths_52 (by decide) ?_
            exact ih2 ((j + 1)) (by omega) (by omega) (upd g j 1) (upd g2 j 0) _ _ (fun h5 => if e5 : 5 = j then (by subst e5; first | rfl | (exfalso; omega)) else (pk_un e5).trans (hinv (by omega))) hP hD hS ls (lv_sub hl [0, 1] rfl)
          · skip
            have n18 : (j / 10) = 0 := by have t := eqI c16; rw [nI_toInt (n := (j / 10)) (by omega)] at t; have : (0 : Int32).toInt = 0 := (by decide); omega
            refine lv_iconst (v := 1) hx hb dX11_layPaths_43 (by decide) ?_
            refine lv_goto (tgt := 48) hx hb dX11_layPaths_44 (by decide) ?_
            refine va_iast hx hb hK.1 hP hD hS 3 0 rfl rfl (vp_in_nI (by omega) (by decide)) dX11_layPaths_48 (fun H locs hP hD hS => ?_)
            rw [nI_clamp (by omega)] at hP hD
            have hP : va_P (dC, dI) vwCl [(h0, .inr (11, [.ref st, .int 0, .int 0, .ref rp, .int 0, .int 0, .int 0, .int 0, .int 0, .int 0, .ref tp, .int 0, .int 0, .int 0, .int 0, .int 0, .int 0, .int 0, .int 0, .ref cu, .ref lt, .ref od, .ref th, .ref be, .ref ln, .int 0, .ref ma, .int 0, .ref ah, .ref bh, .ref ik, .ref la, .ref lg, .ref ce, .int 0])), (st, .inl (G 0, 196, .inl (fun _ => 0))), (ah, .inl (G 0, 110, .inl (upd g j 1))), (bh, .inl (G 0, 110, .inl (upd g2 j 1)))] H := hP
            have hD : va_D A [(h0, .inr (11, [.ref st, .int 0, .int 0, .ref rp, .int 0, .int 0, .int 0, .int 0, .int 0, .int 0, .ref tp, .int 0, .int 0, .int 0, .int 0, .int 0, .int 0, .int 0, .int 0, .ref cu, .ref lt, .ref od, .ref th, .ref be, .ref ln, .int 0, .ref ma, .int 0, .ref ah, .ref bh, .ref ik, .ref la, .ref lg, .ref ce, .int 0])), (st, .inl (G 0, 196, .inl (fun _ => 0))), (ah, .inl (G 0, 110, .inl (upd g j 1))), (bh, .inl (G 0, 110, .inl (upd g2 j 1)))] := hD
            refine lv_iinc (v := nI (j + 1)) (lv' := [(1, .int (nI (j + 1))), (0, .ref h0)]) hx hb dX11_layPaths_49 hl (k := 0) rfl (by rw [show Int32.ofInt 1 = nI 1 from by decide]; exact nI_add _ _) (by decide) rfl (fun ls hl => ?_)
            refine lv_goto (tgt := 2) hx hb dX11_layPaths_52 (by decide) ?_
            exact ih2 ((j + 1)) (by omega) (by omega) (upd g j 1) (upd g2 j 1) _ _ (fun h5 => if e5 : 5 = j then (by subst e5; first | rfl | (exfalso; omega)) else (pk_un e5).trans (hinv (by omega))) hP hD hS ls (lv_sub hl [0, 1] rfl)
  exact loop2 (110 + 1) 0 (by omega) (by omega) fa fb _ _ (fun h => absurd h (by omega)) hP hD hS ls (lv_sub hl [0, 1] rfl)

set_option maxHeartbeats 4000000 in
set_option maxRecDepth 100000 in
theorem c_X11_copies49 (l : Launch) (dC : Nat → ClassId) (dI : Nat → Nat → Nat) (G : Nat → ClassId) (sz : Nat) (h0 st rp tp cu lt od th be ln ma ah bh ik la lg ce : Nat) (f : Nat → Int32)   : Met l yX11_copies (Cond.code yX11_copies cX11_copies 4 none :: GT) ({ frames := 0, cells := 0, slots := 0, locals := 0 } : Room) (PcW [.ref h0, .int 0, .int 49] dC dI G [(h0, .inr (11, [.ref st, .int 0, .int 0, .ref rp, .int 0, .int 0, .int 0, .int 0, .int 0, .int 0, .ref tp, .int 0, .int 0, .int 0, .int 0, .int 0, .int 0, .int 0, .int 0, .ref cu, .ref lt, .ref od, .ref th, .ref be, .ref ln, .int 0, .ref ma, .int 0, .ref ah, .ref bh, .ref ik, .ref la, .ref lg, .ref ce, .int 0])), (st, .inl (G 0, 196, .inl f))] sz) (va_Qv (fun (u : Nat → Int32) => match u with | u => True) (fun (u : Nat → Int32) (t : State) => match u with | u => va_P (dC, dI) vwCl [(h0, .inr (11, [.ref st, .int 0, .int 0, .ref rp, .int 0, .int 0, .int 0, .int 0, .int 0, .int 0, .ref tp, .int 0, .int 0, .int 0, .int 0, .int 0, .int 0, .int 0, .int 0, .ref cu, .ref lt, .ref od, .ref th, .ref be, .ref ln, .int 0, .ref ma, .int 0, .ref ah, .ref bh, .ref ik, .ref la, .ref lg, .ref ce, .int 0])), (st, .inl (G 0, 196, .inl u))] t.heap ∧ va_D (va_A [(h0, .inr (11, [.ref st, .int 0, .int 0, .ref rp, .int 0, .int 0, .int 0, .int 0, .int 0, .int 0, .ref tp, .int 0, .int 0, .int 0, .int 0, .int 0, .int 0, .int 0, .int 0, .ref cu, .ref lt, .ref od, .ref th, .ref be, .ref ln, .int 0, .ref ma, .int 0, .ref ah, .ref bh, .ref ik, .ref la, .ref lg, .ref ce, .int 0])), (st, .inl (G 0, 196, .inl f))] sz) [(h0, .inr (11, [.ref st, .int 0, .int 0, .ref rp, .int 0, .int 0, .int 0, .int 0, .int 0, .int 0, .ref tp, .int 0, .int 0, .int 0, .int 0, .int 0, .int 0, .int 0, .int 0, .ref cu, .ref lt, .ref od, .ref th, .ref be, .ref ln, .int 0, .ref ma, .int 0, .ref ah, .ref bh, .ref ik, .ref la, .ref lg, .ref ce, .int 0])), (st, .inl (G 0, 196, .inl u))]) (va_A [(h0, .inr (11, [.ref st, .int 0, .int 0, .ref rp, .int 0, .int 0, .int 0, .int 0, .int 0, .int 0, .ref tp, .int 0, .int 0, .int 0, .int 0, .int 0, .int 0, .int 0, .int 0, .ref cu, .ref lt, .ref od, .ref th, .ref be, .ref ln, .int 0, .ref ma, .int 0, .ref ah, .ref bh, .ref ik, .ref la, .ref lg, .ref ce, .int 0])), (st, .inl (G 0, 196, .inl f))] sz)) 0 0 (va_A [(h0, .inr (11, [.ref st, .int 0, .int 0, .ref rp, .int 0, .int 0, .int 0, .int 0, .int 0, .int 0, .ref tp, .int 0, .int 0, .int 0, .int 0, .int 0, .int 0, .int 0, .int 0, .ref cu, .ref lt, .ref od, .ref th, .ref be, .ref ln, .int 0, .ref ma, .int 0, .ref ah, .ref bh, .ref ik, .ref la, .ref lg, .ref ce, .int 0])), (st, .inl (G 0, 196, .inl f))] sz) := by
  refine Met.ofW (cc := cX11_copies) (maxL := 4) (ret := none) (by decide) rfl ?_
  intro p e s m args below meth c s₁ B hml hv
  obtain ⟨rfl, hsz, hP, hK, hD0⟩ := hv
  have hx := B.exec
  have hb := B.bytes
  have hr := B.returns
  have hg : ∀ w ∈ GT, w.before ([.ref h0, .int 0, .int 49] : List Value).toArray s = true := fun w h => atoms_spec (ws := Cond.code yX11_copies cX11_copies 4 none :: GT) B.pre w (List.mem_cons_of_mem _ h)
  have hown : s.vm.findClass RX11 = some m.cls := findClass_of_methodNamed B.named
  have hlocks := B.notSynchronized
  subst hsz
  have hD := hD0.self (sz := s.heap.size)
  generalize hAe : va_A [(h0, .inr (11, [.ref st, .int 0, .int 0, .ref rp, .int 0, .int 0, .int 0, .int 0, .int 0, .int 0, .ref tp, .int 0, .int 0, .int 0, .int 0, .int 0, .int 0, .int 0, .int 0, .ref cu, .ref lt, .ref od, .ref th, .ref be, .ref ln, .int 0, .ref ma, .int 0, .ref ah, .ref bh, .ref ik, .ref la, .ref lg, .ref ce, .int 0])), (st, .inl (G 0, 196, .inl f))] s.heap.size = A at hD ⊢
  have hA : ∀ q : Nat, s.heap.size ≤ q → A q := fun q h => by rw [← hAe]; exact Or.inr h
  have hS : va_S A s.heap s.heap [] := va_S.rf
  have hl := lv_entry ([.ref h0, .int 0, .int 49]) (n := 4) (Nat.le_of_ble_eq_true rfl)
  rw [lg_entry_eq]
  generalize (lg_sl ([.ref h0, .int 0, .int 49]) ++ List.replicate (4 - (lg_sl ([.ref h0, .int 0, .int 49])).length) Slot.unset).toArray = ls at hl ⊢
  have hl : lv_has ls 4 [(0, .ref h0), (1, .int 0), (2, .int 49)] := hl
  refine lv_iconst (v := 0) hx hb dX11_copies_0 (by decide) ?_
  refine lv_istore_n (lv' := [(3, .int 0), (0, .ref h0), (1, .int 0), (2, .int 49)]) hx hb dX11_copies_1 rfl hl (by decide) rfl (fun ls hl => ?_)
  have loop2 : ∀ (nf j : Nat), 49 + 1 ≤ j + nf → j ≤ 49 → ∀ (g : Nat → Int32) (H : Heap) (locs : List Loc), va_P (dC, dI) vwCl [(h0, .inr (11, [.ref st, .int 0, .int 0, .ref rp, .int 0, .int 0, .int 0, .int 0, .int 0, .int 0, .ref tp, .int 0, .int 0, .int 0, .int 0, .int 0, .int 0, .int 0, .int 0, .ref cu, .ref lt, .ref od, .ref th, .ref be, .ref ln, .int 0, .ref ma, .int 0, .ref ah, .ref bh, .ref ik, .ref la, .ref lg, .ref ce, .int 0])), (st, .inl (G 0, 196, .inl g))] H → va_D A [(h0, .inr (11, [.ref st, .int 0, .int 0, .ref rp, .int 0, .int 0, .int 0, .int 0, .int 0, .int 0, .ref tp, .int 0, .int 0, .int 0, .int 0, .int 0, .int 0, .int 0, .int 0, .ref cu, .ref lt, .ref od, .ref th, .ref be, .ref ln, .int 0, .ref ma, .int 0, .ref ah, .ref bh, .ref ik, .ref la, .ref lg, .ref ce, .int 0])), (st, .inl (G 0, 196, .inl g))] → va_S A s.heap H locs → ∀ (ls : Array Slot), lv_has ls 4 [(3, .int (nI j)), (0, .ref h0), (1, .int 0), (2, .int 49)] → W p l e (headSpec (Cond.code yX11_copies cX11_copies 4 none :: GT) ({ frames := 0, cells := 0, slots := 0, locals := 0 } : Room)).room s m ([.ref h0, .int 0, .int 49] : List Value).toArray below meth c H locs 0 0 (MQ below (va_Qv (fun (u : Nat → Int32) => match u with | u => True) (fun (u : Nat → Int32) (t : State) => match u with | u => va_P (dC, dI) vwCl [(h0, .inr (11, [.ref st, .int 0, .int 0, .ref rp, .int 0, .int 0, .int 0, .int 0, .int 0, .int 0, .ref tp, .int 0, .int 0, .int 0, .int 0, .int 0, .int 0, .int 0, .int 0, .ref cu, .ref lt, .ref od, .ref th, .ref be, .ref ln, .int 0, .ref ma, .int 0, .ref ah, .ref bh, .ref ik, .ref la, .ref lg, .ref ce, .int 0])), (st, .inl (G 0, 196, .inl u))] t.heap ∧ va_D A [(h0, .inr (11, [.ref st, .int 0, .int 0, .ref rp, .int 0, .int 0, .int 0, .int 0, .int 0, .int 0, .ref tp, .int 0, .int 0, .int 0, .int 0, .int 0, .int 0, .int 0, .int 0, .ref cu, .ref lt, .ref od, .ref th, .ref be, .ref ln, .int 0, .ref ma, .int 0, .ref ah, .ref bh, .ref ik, .ref la, .ref lg, .ref ce, .int 0])), (st, .inl (G 0, 196, .inl u))]) A) ([.ref h0, .int 0, .int 49] : List Value).toArray s 0 0 A) (F0 m 2 ls []) := by
    intro nf
    induction nf with
    | zero => intro j h1 h2; exact absurd h1 (by omega)
    | succ nf ih2 =>
      intro j hn1 hj2 g H locs hP hD hS ls hl
      refine lv_iload_n hx hb dX11_copies_2 rfl (lv_at hl 0 rfl) ?_
      refine lv_bipush (v := 49) hx hb dX11_copies_3 (by decide) ?_
      refine lv_icmp_ge (tgt := 30) hx hb dX11_copies_5 (by decide) (fun c3 => ?_) (fun c3 => ?_)
      · skip
        have n4 : 49 ≤ j := by have t := leI c3; rw [nI_toInt (n := j) (by omega)] at t; have : (49 : Int32).toInt = 49 := (by decide); omega
        have hP9 := hP.sub (ws' := [(h0, .inr (11, [.ref st, .int 0, .int 0, .ref rp, .int 0, .int 0, .int 0, .int 0, .int 0, .int 0, .ref tp, .int 0, .int 0, .int 0, .int 0, .int 0, .int 0, .int 0, .int 0, .ref cu, .ref lt, .ref od, .ref th, .ref be, .ref ln, .int 0, .ref ma, .int 0, .ref ah, .ref bh, .ref ik, .ref la, .ref lg, .ref ce, .int 0])), (st, .inl (G 0, 196, .inl g))]) [0, 1] rfl
        have hD9 := hD.sub (ws' := [(h0, .inr (11, [.ref st, .int 0, .int 0, .ref rp, .int 0, .int 0, .int 0, .int 0, .int 0, .int 0, .ref tp, .int 0, .int 0, .int 0, .int 0, .int 0, .int 0, .int 0, .int 0, .ref cu, .ref lt, .ref od, .ref th, .ref be, .ref ln, .int 0, .ref ma, .int 0, .ref ah, .ref bh, .ref ik, .ref la, .ref lg, .ref ce, .int 0])), (st, .inl (G 0, 196, .inl g))]) [0, 1] (by decide) rfl
        refine W.widen (k := 0) (n := 0) (by omega) (by omega) ?_
        exact W.vret hx hb hr (fun t ht hW => ⟨⟨g, rfl, trivial, ⟨by rw [ht]; exact hP9, hD9⟩⟩, hS.F ht⟩) hS.2.2 dX11_copies_30
      · skip
        have n5 : j < 49 := by have t := nleI c3; rw [nI_toInt (n := j) (by omega)] at t; have : (49 : Int32).toInt = 49 := (by decide); omega
        refine lv_aload_n hx hb dX11_copies_8 rfl (lv_at hl 1 rfl) ?_
        refine va_get (D := (dC, dI)) (ci := 11) (v := .ref st) (C := RX11) (T := TX11) (N := 35) hx hb hg inG11 hown hK.1 hP 0 rfl rfl 0 (by decide) (hg _ wt_878) (fun _ h9 => h9) rfl dX11_copies_9 ?_
        refine lv_iload_n hx hb dX11_copies_12 rfl (lv_at hl 3 rfl) ?_
        refine lv_iload_n hx hb dX11_copies_13 rfl (lv_at hl 0 rfl) ?_
        refine lv_iadd hx hb dX11_copies_14 ?_
        refine lv_cg (y := nI (49 + j)) (by rw [show (49 : Int32) = nI 49 from rfl]; exact nI_add _ _) ?_
        refine lv_aload_n hx hb dX11_copies_15 rfl (lv_at hl 1 rfl) ?_
        refine va_get (D := (dC, dI)) (ci := 11) (v := .ref st) (C := RX11) (T := TX11) (N := 35) hx hb hg inG11 hown hK.1 hP 0 rfl rfl 0 (by decide) (hg _ wt_878) (fun _ h9 => h9) rfl dX11_copies_16 ?_
        refine lv_iload_n hx hb dX11_copies_19 rfl (lv_at hl 2 rfl) ?_
        refine lv_iload_n hx hb dX11_copies_20 rfl (lv_at hl 0 rfl) ?_
        refine lv_iadd hx hb dX11_copies_21 ?_
        refine lv_cg (y := nI j) (by rw [show (0 : Int32) = nI 0 from rfl, nI_add, Nat.zero_add]) ?_
        refine va_iald hx hb hK.1 hP 1 0 rfl rfl (vp_in_nI (by omega) (by decide)) dX11_copies_22 ?_
        refine lv_cg (y := g j) (by rw [nI_clamp (by omega)]) ?_
        refine va_iast hx hb hK.1 hP hD hS 1 0 rfl rfl (vp_in_nI (by omega) (by decide)) dX11_copies_23 (fun H locs hP hD hS => ?_)
        rw [nI_clamp (by omega)] at hP hD
        have hP : va_P (dC, dI) vwCl [(h0, .inr (11, [.ref st, .int 0, .int 0, .ref rp, .int 0, .int 0, .int 0, .int 0, .int 0, .int 0, .ref tp, .int 0, .int 0, .int 0, .int 0, .int 0, .int 0, .int 0, .int 0, .ref cu, .ref lt, .ref od, .ref th, .ref be, .ref ln, .int 0, .ref ma, .int 0, .ref ah, .ref bh, .ref ik, .ref la, .ref lg, .ref ce, .int 0])), (st, .inl (G 0, 196, .inl (upd g (49 + j) (g j))))] H := hP
        have hD : va_D A [(h0, .inr (11, [.ref st, .int 0, .int 0, .ref rp, .int 0, .int 0, .int 0, .int 0, .int 0, .int 0, .ref tp, .int 0, .int 0, .int 0, .int 0, .int 0, .int 0, .int 0, .int 0, .ref cu, .ref lt, .ref od, .ref th, .ref be, .ref ln, .int 0, .ref ma, .int 0, .ref ah, .ref bh, .ref ik, .ref la, .ref lg, .ref ce, .int 0])), (st, .inl (G 0, 196, .inl (upd g (49 + j) (g j))))] := hD
        refine lv_iinc (v := nI (j + 1)) (lv' := [(3, .int (nI (j + 1))), (0, .ref h0), (1, .int 0), (2, .int 49)]) hx hb dX11_copies_24 hl (k := 0) rfl (by rw [show Int32.ofInt 1 = nI 1 from by decide]; exact nI_add _ _) (by decide) rfl (fun ls hl => ?_)
        refine lv_goto (tgt := 2) hx hb dX11_copies_27 (by decide) ?_
        exact ih2 ((j + 1)) (by omega) (by omega) (upd g (49 + j) (g j)) _ _ hP hD hS ls (lv_sub hl [0, 1, 2, 3] rfl)
  exact loop2 (49 + 1) 0 (by omega) (by omega) f _ _ hP hD hS ls (lv_sub hl [0, 1, 2, 3] rfl)

set_option maxHeartbeats 4000000 in
set_option maxRecDepth 100000 in
theorem c_X11_copies98 (l : Launch) (dC : Nat → ClassId) (dI : Nat → Nat → Nat) (G : Nat → ClassId) (sz : Nat) (h0 st rp tp cu lt od th be ln ma ah bh ik la lg ce : Nat) (f : Nat → Int32)   : Met l yX11_copies (Cond.code yX11_copies cX11_copies 4 none :: GT) ({ frames := 0, cells := 0, slots := 0, locals := 0 } : Room) (PcW [.ref h0, .int 0, .int 98] dC dI G [(h0, .inr (11, [.ref st, .int 0, .int 0, .ref rp, .int 0, .int 0, .int 0, .int 0, .int 0, .int 0, .ref tp, .int 0, .int 0, .int 0, .int 0, .int 0, .int 0, .int 0, .int 0, .ref cu, .ref lt, .ref od, .ref th, .ref be, .ref ln, .int 0, .ref ma, .int 0, .ref ah, .ref bh, .ref ik, .ref la, .ref lg, .ref ce, .int 0])), (st, .inl (G 0, 196, .inl f))] sz) (va_Qv (fun (u : Nat → Int32) => match u with | u => True) (fun (u : Nat → Int32) (t : State) => match u with | u => va_P (dC, dI) vwCl [(h0, .inr (11, [.ref st, .int 0, .int 0, .ref rp, .int 0, .int 0, .int 0, .int 0, .int 0, .int 0, .ref tp, .int 0, .int 0, .int 0, .int 0, .int 0, .int 0, .int 0, .int 0, .ref cu, .ref lt, .ref od, .ref th, .ref be, .ref ln, .int 0, .ref ma, .int 0, .ref ah, .ref bh, .ref ik, .ref la, .ref lg, .ref ce, .int 0])), (st, .inl (G 0, 196, .inl u))] t.heap ∧ va_D (va_A [(h0, .inr (11, [.ref st, .int 0, .int 0, .ref rp, .int 0, .int 0, .int 0, .int 0, .int 0, .int 0, .ref tp, .int 0, .int 0, .int 0, .int 0, .int 0, .int 0, .int 0, .int 0, .ref cu, .ref lt, .ref od, .ref th, .ref be, .ref ln, .int 0, .ref ma, .int 0, .ref ah, .ref bh, .ref ik, .ref la, .ref lg, .ref ce, .int 0])), (st, .inl (G 0, 196, .inl f))] sz) [(h0, .inr (11, [.ref st, .int 0, .int 0, .ref rp, .int 0, .int 0, .int 0, .int 0, .int 0, .int 0, .ref tp, .int 0, .int 0, .int 0, .int 0, .int 0, .int 0, .int 0, .int 0, .ref cu, .ref lt, .ref od, .ref th, .ref be, .ref ln, .int 0, .ref ma, .int 0, .ref ah, .ref bh, .ref ik, .ref la, .ref lg, .ref ce, .int 0])), (st, .inl (G 0, 196, .inl u))]) (va_A [(h0, .inr (11, [.ref st, .int 0, .int 0, .ref rp, .int 0, .int 0, .int 0, .int 0, .int 0, .int 0, .ref tp, .int 0, .int 0, .int 0, .int 0, .int 0, .int 0, .int 0, .int 0, .ref cu, .ref lt, .ref od, .ref th, .ref be, .ref ln, .int 0, .ref ma, .int 0, .ref ah, .ref bh, .ref ik, .ref la, .ref lg, .ref ce, .int 0])), (st, .inl (G 0, 196, .inl f))] sz)) 0 0 (va_A [(h0, .inr (11, [.ref st, .int 0, .int 0, .ref rp, .int 0, .int 0, .int 0, .int 0, .int 0, .int 0, .ref tp, .int 0, .int 0, .int 0, .int 0, .int 0, .int 0, .int 0, .int 0, .ref cu, .ref lt, .ref od, .ref th, .ref be, .ref ln, .int 0, .ref ma, .int 0, .ref ah, .ref bh, .ref ik, .ref la, .ref lg, .ref ce, .int 0])), (st, .inl (G 0, 196, .inl f))] sz) := by
  refine Met.ofW (cc := cX11_copies) (maxL := 4) (ret := none) (by decide) rfl ?_
  intro p e s m args below meth c s₁ B hml hv
  obtain ⟨rfl, hsz, hP, hK, hD0⟩ := hv
  have hx := B.exec
  have hb := B.bytes
  have hr := B.returns
  have hg : ∀ w ∈ GT, w.before ([.ref h0, .int 0, .int 98] : List Value).toArray s = true := fun w h => atoms_spec (ws := Cond.code yX11_copies cX11_copies 4 none :: GT) B.pre w (List.mem_cons_of_mem _ h)
  have hown : s.vm.findClass RX11 = some m.cls := findClass_of_methodNamed B.named
  have hlocks := B.notSynchronized
  subst hsz
  have hD := hD0.self (sz := s.heap.size)
  generalize hAe : va_A [(h0, .inr (11, [.ref st, .int 0, .int 0, .ref rp, .int 0, .int 0, .int 0, .int 0, .int 0, .int 0, .ref tp, .int 0, .int 0, .int 0, .int 0, .int 0, .int 0, .int 0, .int 0, .ref cu, .ref lt, .ref od, .ref th, .ref be, .ref ln, .int 0, .ref ma, .int 0, .ref ah, .ref bh, .ref ik, .ref la, .ref lg, .ref ce, .int 0])), (st, .inl (G 0, 196, .inl f))] s.heap.size = A at hD ⊢
  have hA : ∀ q : Nat, s.heap.size ≤ q → A q := fun q h => by rw [← hAe]; exact Or.inr h
  have hS : va_S A s.heap s.heap [] := va_S.rf
  have hl := lv_entry ([.ref h0, .int 0, .int 98]) (n := 4) (Nat.le_of_ble_eq_true rfl)
  rw [lg_entry_eq]
  generalize (lg_sl ([.ref h0, .int 0, .int 98]) ++ List.replicate (4 - (lg_sl ([.ref h0, .int 0, .int 98])).length) Slot.unset).toArray = ls at hl ⊢
  have hl : lv_has ls 4 [(0, .ref h0), (1, .int 0), (2, .int 98)] := hl
  refine lv_iconst (v := 0) hx hb dX11_copies_0 (by decide) ?_
  refine lv_istore_n (lv' := [(3, .int 0), (0, .ref h0), (1, .int 0), (2, .int 98)]) hx hb dX11_copies_1 rfl hl (by decide) rfl (fun ls hl => ?_)
  have loop2 : ∀ (nf j : Nat), 49 + 1 ≤ j + nf → j ≤ 49 → ∀ (g : Nat → Int32) (H : Heap) (locs : List Loc), va_P (dC, dI) vwCl [(h0, .inr (11, [.ref st, .int 0, .int 0, .ref rp, .int 0, .int 0, .int 0, .int 0, .int 0, .int 0, .ref tp, .int 0, .int 0, .int 0, .int 0, .int 0, .int 0, .int 0, .int 0, .ref cu, .ref lt, .ref od, .ref th, .ref be, .ref ln, .int 0, .ref ma, .int 0, .ref ah, .ref bh, .ref ik, .ref la, .ref lg, .ref ce, .int 0])), (st, .inl (G 0, 196, .inl g))] H → va_D A [(h0, .inr (11, [.ref st, .int 0, .int 0, .ref rp, .int 0, .int 0, .int 0, .int 0, .int 0, .int 0, .ref tp, .int 0, .int 0, .int 0, .int 0, .int 0, .int 0, .int 0, .int 0, .ref cu, .ref lt, .ref od, .ref th, .ref be, .ref ln, .int 0, .ref ma, .int 0, .ref ah, .ref bh, .ref ik, .ref la, .ref lg, .ref ce, .int 0])), (st, .inl (G 0, 196, .inl g))] → va_S A s.heap H locs → ∀ (ls : Array Slot), lv_has ls 4 [(3, .int (nI j)), (0, .ref h0), (1, .int 0), (2, .int 98)] → W p l e (headSpec (Cond.code yX11_copies cX11_copies 4 none :: GT) ({ frames := 0, cells := 0, slots := 0, locals := 0 } : Room)).room s m ([.ref h0, .int 0, .int 98] : List Value).toArray below meth c H locs 0 0 (MQ below (va_Qv (fun (u : Nat → Int32) => match u with | u => True) (fun (u : Nat → Int32) (t : State) => match u with | u => va_P (dC, dI) vwCl [(h0, .inr (11, [.ref st, .int 0, .int 0, .ref rp, .int 0, .int 0, .int 0, .int 0, .int 0, .int 0, .ref tp, .int 0, .int 0, .int 0, .int 0, .int 0, .int 0, .int 0, .int 0, .ref cu, .ref lt, .ref od, .ref th, .ref be, .ref ln, .int 0, .ref ma, .int 0, .ref ah, .ref bh, .ref ik, .ref la, .ref lg, .ref ce, .int 0])), (st, .inl (G 0, 196, .inl u))] t.heap ∧ va_D A [(h0, .inr (11, [.ref st, .int 0, .int 0, .ref rp, .int 0, .int 0, .int 0, .int 0, .int 0, .int 0, .ref tp, .int 0, .int 0, .int 0, .int 0, .int 0, .int 0, .int 0, .int 0, .ref cu, .ref lt, .ref od, .ref th, .ref be, .ref ln, .int 0, .ref ma, .int 0, .ref ah, .ref bh, .ref ik, .ref la, .ref lg, .ref ce, .int 0])), (st, .inl (G 0, 196, .inl u))]) A) ([.ref h0, .int 0, .int 98] : List Value).toArray s 0 0 A) (F0 m 2 ls []) := by
    intro nf
    induction nf with
    | zero => intro j h1 h2; exact absurd h1 (by omega)
    | succ nf ih2 =>
      intro j hn1 hj2 g H locs hP hD hS ls hl
      refine lv_iload_n hx hb dX11_copies_2 rfl (lv_at hl 0 rfl) ?_
      refine lv_bipush (v := 49) hx hb dX11_copies_3 (by decide) ?_
      refine lv_icmp_ge (tgt := 30) hx hb dX11_copies_5 (by decide) (fun c3 => ?_) (fun c3 => ?_)
      · skip
        have n4 : 49 ≤ j := by have t := leI c3; rw [nI_toInt (n := j) (by omega)] at t; have : (49 : Int32).toInt = 49 := (by decide); omega
        have hP9 := hP.sub (ws' := [(h0, .inr (11, [.ref st, .int 0, .int 0, .ref rp, .int 0, .int 0, .int 0, .int 0, .int 0, .int 0, .ref tp, .int 0, .int 0, .int 0, .int 0, .int 0, .int 0, .int 0, .int 0, .ref cu, .ref lt, .ref od, .ref th, .ref be, .ref ln, .int 0, .ref ma, .int 0, .ref ah, .ref bh, .ref ik, .ref la, .ref lg, .ref ce, .int 0])), (st, .inl (G 0, 196, .inl g))]) [0, 1] rfl
        have hD9 := hD.sub (ws' := [(h0, .inr (11, [.ref st, .int 0, .int 0, .ref rp, .int 0, .int 0, .int 0, .int 0, .int 0, .int 0, .ref tp, .int 0, .int 0, .int 0, .int 0, .int 0, .int 0, .int 0, .int 0, .ref cu, .ref lt, .ref od, .ref th, .ref be, .ref ln, .int 0, .ref ma, .int 0, .ref ah, .ref bh, .ref ik, .ref la, .ref lg, .ref ce, .int 0])), (st, .inl (G 0, 196, .inl g))]) [0, 1] (by decide) rfl
        refine W.widen (k := 0) (n := 0) (by omega) (by omega) ?_
        exact W.vret hx hb hr (fun t ht hW => ⟨⟨g, rfl, trivial, ⟨by rw [ht]; exact hP9, hD9⟩⟩, hS.F ht⟩) hS.2.2 dX11_copies_30
      · skip
        have n5 : j < 49 := by have t := nleI c3; rw [nI_toInt (n := j) (by omega)] at t; have : (49 : Int32).toInt = 49 := (by decide); omega
        refine lv_aload_n hx hb dX11_copies_8 rfl (lv_at hl 1 rfl) ?_
        refine va_get (D := (dC, dI)) (ci := 11) (v := .ref st) (C := RX11) (T := TX11) (N := 35) hx hb hg inG11 hown hK.1 hP 0 rfl rfl 0 (by decide) (hg _ wt_878) (fun _ h9 => h9) rfl dX11_copies_9 ?_
        refine lv_iload_n hx hb dX11_copies_12 rfl (lv_at hl 3 rfl) ?_
        refine lv_iload_n hx hb dX11_copies_13 rfl (lv_at hl 0 rfl) ?_
        refine lv_iadd hx hb dX11_copies_14 ?_
        refine lv_cg (y := nI (98 + j)) (by rw [show (98 : Int32) = nI 98 from rfl]; exact nI_add _ _) ?_
        refine lv_aload_n hx hb dX11_copies_15 rfl (lv_at hl 1 rfl) ?_
        refine va_get (D := (dC, dI)) (ci := 11) (v := .ref st) (C := RX11) (T := TX11) (N := 35) hx hb hg inG11 hown hK.1 hP 0 rfl rfl 0 (by decide) (hg _ wt_878) (fun _ h9 => h9) rfl dX11_copies_16 ?_
        refine lv_iload_n hx hb dX11_copies_19 rfl (lv_at hl 2 rfl) ?_
        refine lv_iload_n hx hb dX11_copies_20 rfl (lv_at hl 0 rfl) ?_
        refine lv_iadd hx hb dX11_copies_21 ?_
        refine lv_cg (y := nI j) (by rw [show (0 : Int32) = nI 0 from rfl, nI_add, Nat.zero_add]) ?_
        refine va_iald hx hb hK.1 hP 1 0 rfl rfl (vp_in_nI (by omega) (by decide)) dX11_copies_22 ?_
        refine lv_cg (y := g j) (by rw [nI_clamp (by omega)]) ?_
        refine va_iast hx hb hK.1 hP hD hS 1 0 rfl rfl (vp_in_nI (by omega) (by decide)) dX11_copies_23 (fun H locs hP hD hS => ?_)
        rw [nI_clamp (by omega)] at hP hD
        have hP : va_P (dC, dI) vwCl [(h0, .inr (11, [.ref st, .int 0, .int 0, .ref rp, .int 0, .int 0, .int 0, .int 0, .int 0, .int 0, .ref tp, .int 0, .int 0, .int 0, .int 0, .int 0, .int 0, .int 0, .int 0, .ref cu, .ref lt, .ref od, .ref th, .ref be, .ref ln, .int 0, .ref ma, .int 0, .ref ah, .ref bh, .ref ik, .ref la, .ref lg, .ref ce, .int 0])), (st, .inl (G 0, 196, .inl (upd g (98 + j) (g j))))] H := hP
        have hD : va_D A [(h0, .inr (11, [.ref st, .int 0, .int 0, .ref rp, .int 0, .int 0, .int 0, .int 0, .int 0, .int 0, .ref tp, .int 0, .int 0, .int 0, .int 0, .int 0, .int 0, .int 0, .int 0, .ref cu, .ref lt, .ref od, .ref th, .ref be, .ref ln, .int 0, .ref ma, .int 0, .ref ah, .ref bh, .ref ik, .ref la, .ref lg, .ref ce, .int 0])), (st, .inl (G 0, 196, .inl (upd g (98 + j) (g j))))] := hD
        refine lv_iinc (v := nI (j + 1)) (lv' := [(3, .int (nI (j + 1))), (0, .ref h0), (1, .int 0), (2, .int 98)]) hx hb dX11_copies_24 hl (k := 0) rfl (by rw [show Int32.ofInt 1 = nI 1 from by decide]; exact nI_add _ _) (by decide) rfl (fun ls hl => ?_)
        refine lv_goto (tgt := 2) hx hb dX11_copies_27 (by decide) ?_
        exact ih2 ((j + 1)) (by omega) (by omega) (upd g (98 + j) (g j)) _ _ hP hD hS ls (lv_sub hl [0, 1, 2, 3] rfl)
  exact loop2 (49 + 1) 0 (by omega) (by omega) f _ _ hP hD hS ls (lv_sub hl [0, 1, 2, 3] rfl)

set_option maxHeartbeats 4000000 in
set_option maxRecDepth 100000 in
theorem c_X11_copies147 (l : Launch) (dC : Nat → ClassId) (dI : Nat → Nat → Nat) (G : Nat → ClassId) (sz : Nat) (h0 st rp tp cu lt od th be ln ma ah bh ik la lg ce : Nat) (f : Nat → Int32)   : Met l yX11_copies (Cond.code yX11_copies cX11_copies 4 none :: GT) ({ frames := 0, cells := 0, slots := 0, locals := 0 } : Room) (PcW [.ref h0, .int 0, .int 147] dC dI G [(h0, .inr (11, [.ref st, .int 0, .int 0, .ref rp, .int 0, .int 0, .int 0, .int 0, .int 0, .int 0, .ref tp, .int 0, .int 0, .int 0, .int 0, .int 0, .int 0, .int 0, .int 0, .ref cu, .ref lt, .ref od, .ref th, .ref be, .ref ln, .int 0, .ref ma, .int 0, .ref ah, .ref bh, .ref ik, .ref la, .ref lg, .ref ce, .int 0])), (st, .inl (G 0, 196, .inl f))] sz) (va_Qv (fun (u : Nat → Int32) => match u with | u => True) (fun (u : Nat → Int32) (t : State) => match u with | u => va_P (dC, dI) vwCl [(h0, .inr (11, [.ref st, .int 0, .int 0, .ref rp, .int 0, .int 0, .int 0, .int 0, .int 0, .int 0, .ref tp, .int 0, .int 0, .int 0, .int 0, .int 0, .int 0, .int 0, .int 0, .ref cu, .ref lt, .ref od, .ref th, .ref be, .ref ln, .int 0, .ref ma, .int 0, .ref ah, .ref bh, .ref ik, .ref la, .ref lg, .ref ce, .int 0])), (st, .inl (G 0, 196, .inl u))] t.heap ∧ va_D (va_A [(h0, .inr (11, [.ref st, .int 0, .int 0, .ref rp, .int 0, .int 0, .int 0, .int 0, .int 0, .int 0, .ref tp, .int 0, .int 0, .int 0, .int 0, .int 0, .int 0, .int 0, .int 0, .ref cu, .ref lt, .ref od, .ref th, .ref be, .ref ln, .int 0, .ref ma, .int 0, .ref ah, .ref bh, .ref ik, .ref la, .ref lg, .ref ce, .int 0])), (st, .inl (G 0, 196, .inl f))] sz) [(h0, .inr (11, [.ref st, .int 0, .int 0, .ref rp, .int 0, .int 0, .int 0, .int 0, .int 0, .int 0, .ref tp, .int 0, .int 0, .int 0, .int 0, .int 0, .int 0, .int 0, .int 0, .ref cu, .ref lt, .ref od, .ref th, .ref be, .ref ln, .int 0, .ref ma, .int 0, .ref ah, .ref bh, .ref ik, .ref la, .ref lg, .ref ce, .int 0])), (st, .inl (G 0, 196, .inl u))]) (va_A [(h0, .inr (11, [.ref st, .int 0, .int 0, .ref rp, .int 0, .int 0, .int 0, .int 0, .int 0, .int 0, .ref tp, .int 0, .int 0, .int 0, .int 0, .int 0, .int 0, .int 0, .int 0, .ref cu, .ref lt, .ref od, .ref th, .ref be, .ref ln, .int 0, .ref ma, .int 0, .ref ah, .ref bh, .ref ik, .ref la, .ref lg, .ref ce, .int 0])), (st, .inl (G 0, 196, .inl f))] sz)) 0 0 (va_A [(h0, .inr (11, [.ref st, .int 0, .int 0, .ref rp, .int 0, .int 0, .int 0, .int 0, .int 0, .int 0, .ref tp, .int 0, .int 0, .int 0, .int 0, .int 0, .int 0, .int 0, .int 0, .ref cu, .ref lt, .ref od, .ref th, .ref be, .ref ln, .int 0, .ref ma, .int 0, .ref ah, .ref bh, .ref ik, .ref la, .ref lg, .ref ce, .int 0])), (st, .inl (G 0, 196, .inl f))] sz) := by
  refine Met.ofW (cc := cX11_copies) (maxL := 4) (ret := none) (by decide) rfl ?_
  intro p e s m args below meth c s₁ B hml hv
  obtain ⟨rfl, hsz, hP, hK, hD0⟩ := hv
  have hx := B.exec
  have hb := B.bytes
  have hr := B.returns
  have hg : ∀ w ∈ GT, w.before ([.ref h0, .int 0, .int 147] : List Value).toArray s = true := fun w h => atoms_spec (ws := Cond.code yX11_copies cX11_copies 4 none :: GT) B.pre w (List.mem_cons_of_mem _ h)
  have hown : s.vm.findClass RX11 = some m.cls := findClass_of_methodNamed B.named
  have hlocks := B.notSynchronized
  subst hsz
  have hD := hD0.self (sz := s.heap.size)
  generalize hAe : va_A [(h0, .inr (11, [.ref st, .int 0, .int 0, .ref rp, .int 0, .int 0, .int 0, .int 0, .int 0, .int 0, .ref tp, .int 0, .int 0, .int 0, .int 0, .int 0, .int 0, .int 0, .int 0, .ref cu, .ref lt, .ref od, .ref th, .ref be, .ref ln, .int 0, .ref ma, .int 0, .ref ah, .ref bh, .ref ik, .ref la, .ref lg, .ref ce, .int 0])), (st, .inl (G 0, 196, .inl f))] s.heap.size = A at hD ⊢
  have hA : ∀ q : Nat, s.heap.size ≤ q → A q := fun q h => by rw [← hAe]; exact Or.inr h
  have hS : va_S A s.heap s.heap [] := va_S.rf
  have hl := lv_entry ([.ref h0, .int 0, .int 147]) (n := 4) (Nat.le_of_ble_eq_true rfl)
  rw [lg_entry_eq]
  generalize (lg_sl ([.ref h0, .int 0, .int 147]) ++ List.replicate (4 - (lg_sl ([.ref h0, .int 0, .int 147])).length) Slot.unset).toArray = ls at hl ⊢
  have hl : lv_has ls 4 [(0, .ref h0), (1, .int 0), (2, .int 147)] := hl
  refine lv_iconst (v := 0) hx hb dX11_copies_0 (by decide) ?_
  refine lv_istore_n (lv' := [(3, .int 0), (0, .ref h0), (1, .int 0), (2, .int 147)]) hx hb dX11_copies_1 rfl hl (by decide) rfl (fun ls hl => ?_)
  have loop2 : ∀ (nf j : Nat), 49 + 1 ≤ j + nf → j ≤ 49 → ∀ (g : Nat → Int32) (H : Heap) (locs : List Loc), va_P (dC, dI) vwCl [(h0, .inr (11, [.ref st, .int 0, .int 0, .ref rp, .int 0, .int 0, .int 0, .int 0, .int 0, .int 0, .ref tp, .int 0, .int 0, .int 0, .int 0, .int 0, .int 0, .int 0, .int 0, .ref cu, .ref lt, .ref od, .ref th, .ref be, .ref ln, .int 0, .ref ma, .int 0, .ref ah, .ref bh, .ref ik, .ref la, .ref lg, .ref ce, .int 0])), (st, .inl (G 0, 196, .inl g))] H → va_D A [(h0, .inr (11, [.ref st, .int 0, .int 0, .ref rp, .int 0, .int 0, .int 0, .int 0, .int 0, .int 0, .ref tp, .int 0, .int 0, .int 0, .int 0, .int 0, .int 0, .int 0, .int 0, .ref cu, .ref lt, .ref od, .ref th, .ref be, .ref ln, .int 0, .ref ma, .int 0, .ref ah, .ref bh, .ref ik, .ref la, .ref lg, .ref ce, .int 0])), (st, .inl (G 0, 196, .inl g))] → va_S A s.heap H locs → ∀ (ls : Array Slot), lv_has ls 4 [(3, .int (nI j)), (0, .ref h0), (1, .int 0), (2, .int 147)] → W p l e (headSpec (Cond.code yX11_copies cX11_copies 4 none :: GT) ({ frames := 0, cells := 0, slots := 0, locals := 0 } : Room)).room s m ([.ref h0, .int 0, .int 147] : List Value).toArray below meth c H locs 0 0 (MQ below (va_Qv (fun (u : Nat → Int32) => match u with | u => True) (fun (u : Nat → Int32) (t : State) => match u with | u => va_P (dC, dI) vwCl [(h0, .inr (11, [.ref st, .int 0, .int 0, .ref rp, .int 0, .int 0, .int 0, .int 0, .int 0, .int 0, .ref tp, .int 0, .int 0, .int 0, .int 0, .int 0, .int 0, .int 0, .int 0, .ref cu, .ref lt, .ref od, .ref th, .ref be, .ref ln, .int 0, .ref ma, .int 0, .ref ah, .ref bh, .ref ik, .ref la, .ref lg, .ref ce, .int 0])), (st, .inl (G 0, 196, .inl u))] t.heap ∧ va_D A [(h0, .inr (11, [.ref st, .int 0, .int 0, .ref rp, .int 0, .int 0, .int 0, .int 0, .int 0, .int 0, .ref tp, .int 0, .int 0, .int 0, .int 0, .int 0, .int 0, .int 0, .int 0, .ref cu, .ref lt, .ref od, .ref th, .ref be, .ref ln, .int 0, .ref ma, .int 0, .ref ah, .ref bh, .ref ik, .ref la, .ref lg, .ref ce, .int 0])), (st, .inl (G 0, 196, .inl u))]) A) ([.ref h0, .int 0, .int 147] : List Value).toArray s 0 0 A) (F0 m 2 ls []) := by
    intro nf
    induction nf with
    | zero => intro j h1 h2; exact absurd h1 (by omega)
    | succ nf ih2 =>
      intro j hn1 hj2 g H locs hP hD hS ls hl
      refine lv_iload_n hx hb dX11_copies_2 rfl (lv_at hl 0 rfl) ?_
      refine lv_bipush (v := 49) hx hb dX11_copies_3 (by decide) ?_
      refine lv_icmp_ge (tgt := 30) hx hb dX11_copies_5 (by decide) (fun c3 => ?_) (fun c3 => ?_)
      · skip
        have n4 : 49 ≤ j := by have t := leI c3; rw [nI_toInt (n := j) (by omega)] at t; have : (49 : Int32).toInt = 49 := (by decide); omega
        have hP9 := hP.sub (ws' := [(h0, .inr (11, [.ref st, .int 0, .int 0, .ref rp, .int 0, .int 0, .int 0, .int 0, .int 0, .int 0, .ref tp, .int 0, .int 0, .int 0, .int 0, .int 0, .int 0, .int 0, .int 0, .ref cu, .ref lt, .ref od, .ref th, .ref be, .ref ln, .int 0, .ref ma, .int 0, .ref ah, .ref bh, .ref ik, .ref la, .ref lg, .ref ce, .int 0])), (st, .inl (G 0, 196, .inl g))]) [0, 1] rfl
        have hD9 := hD.sub (ws' := [(h0, .inr (11, [.ref st, .int 0, .int 0, .ref rp, .int 0, .int 0, .int 0, .int 0, .int 0, .int 0, .ref tp, .int 0, .int 0, .int 0, .int 0, .int 0, .int 0, .int 0, .int 0, .ref cu, .ref lt, .ref od, .ref th, .ref be, .ref ln, .int 0, .ref ma, .int 0, .ref ah, .ref bh, .ref ik, .ref la, .ref lg, .ref ce, .int 0])), (st, .inl (G 0, 196, .inl g))]) [0, 1] (by decide) rfl
        refine W.widen (k := 0) (n := 0) (by omega) (by omega) ?_
        exact W.vret hx hb hr (fun t ht hW => ⟨⟨g, rfl, trivial, ⟨by rw [ht]; exact hP9, hD9⟩⟩, hS.F ht⟩) hS.2.2 dX11_copies_30
      · skip
        have n5 : j < 49 := by have t := nleI c3; rw [nI_toInt (n := j) (by omega)] at t; have : (49 : Int32).toInt = 49 := (by decide); omega
        refine lv_aload_n hx hb dX11_copies_8 rfl (lv_at hl 1 rfl) ?_
        refine va_get (D := (dC, dI)) (ci := 11) (v := .ref st) (C := RX11) (T := TX11) (N := 35) hx hb hg inG11 hown hK.1 hP 0 rfl rfl 0 (by decide) (hg _ wt_878) (fun _ h9 => h9) rfl dX11_copies_9 ?_
        refine lv_iload_n hx hb dX11_copies_12 rfl (lv_at hl 3 rfl) ?_
        refine lv_iload_n hx hb dX11_copies_13 rfl (lv_at hl 0 rfl) ?_
        refine lv_iadd hx hb dX11_copies_14 ?_
        refine lv_cg (y := nI (147 + j)) (by rw [show (147 : Int32) = nI 147 from rfl]; exact nI_add _ _) ?_
        refine lv_aload_n hx hb dX11_copies_15 rfl (lv_at hl 1 rfl) ?_
        refine va_get (D := (dC, dI)) (ci := 11) (v := .ref st) (C := RX11) (T := TX11) (N := 35) hx hb hg inG11 hown hK.1 hP 0 rfl rfl 0 (by decide) (hg _ wt_878) (fun _ h9 => h9) rfl dX11_copies_16 ?_
        refine lv_iload_n hx hb dX11_copies_19 rfl (lv_at hl 2 rfl) ?_
        refine lv_iload_n hx hb dX11_copies_20 rfl (lv_at hl 0 rfl) ?_
        refine lv_iadd hx hb dX11_copies_21 ?_
        refine lv_cg (y := nI j) (by rw [show (0 : Int32) = nI 0 from rfl, nI_add, Nat.zero_add]) ?_
        refine va_iald hx hb hK.1 hP 1 0 rfl rfl (vp_in_nI (by omega) (by decide)) dX11_copies_22 ?_
        refine lv_cg (y := g j) (by rw [nI_clamp (by omega)]) ?_
        refine va_iast hx hb hK.1 hP hD hS 1 0 rfl rfl (vp_in_nI (by omega) (by decide)) dX11_copies_23 (fun H locs hP hD hS => ?_)
        rw [nI_clamp (by omega)] at hP hD
        have hP : va_P (dC, dI) vwCl [(h0, .inr (11, [.ref st, .int 0, .int 0, .ref rp, .int 0, .int 0, .int 0, .int 0, .int 0, .int 0, .ref tp, .int 0, .int 0, .int 0, .int 0, .int 0, .int 0, .int 0, .int 0, .ref cu, .ref lt, .ref od, .ref th, .ref be, .ref ln, .int 0, .ref ma, .int 0, .ref ah, .ref bh, .ref ik, .ref la, .ref lg, .ref ce, .int 0])), (st, .inl (G 0, 196, .inl (upd g (147 + j) (g j))))] H := hP
        have hD : va_D A [(h0, .inr (11, [.ref st, .int 0, .int 0, .ref rp, .int 0, .int 0, .int 0, .int 0, .int 0, .int 0, .ref tp, .int 0, .int 0, .int 0, .int 0, .int 0, .int 0, .int 0, .int 0, .ref cu, .ref lt, .ref od, .ref th, .ref be, .ref ln, .int 0, .ref ma, .int 0, .ref ah, .ref bh, .ref ik, .ref la, .ref lg, .ref ce, .int 0])), (st, .inl (G 0, 196, .inl (upd g (147 + j) (g j))))] := hD
        refine lv_iinc (v := nI (j + 1)) (lv' := [(3, .int (nI (j + 1))), (0, .ref h0), (1, .int 0), (2, .int 147)]) hx hb dX11_copies_24 hl (k := 0) rfl (by rw [show Int32.ofInt 1 = nI 1 from by decide]; exact nI_add _ _) (by decide) rfl (fun ls hl => ?_)
        refine lv_goto (tgt := 2) hx hb dX11_copies_27 (by decide) ?_
        exact ih2 ((j + 1)) (by omega) (by omega) (upd g (147 + j) (g j)) _ _ hP hD hS ls (lv_sub hl [0, 1, 2, 3] rfl)
  exact loop2 (49 + 1) 0 (by omega) (by omega) f _ _ hP hD hS ls (lv_sub hl [0, 1, 2, 3] rfl)

set_option maxHeartbeats 4000000 in
set_option maxRecDepth 100000 in
theorem c_X11_byteAt (l : Launch) (dC : Nat → ClassId) (dI : Nat → Nat → Nat) (G : Nat → ClassId) (sz : Nat) (h0 st rp tp cu lt od th be ln ma ah bh ik la lg ce : Nat)    : Met l yX11_byteAt (Cond.code yX11_byteAt cX11_byteAt 2 (some .int) :: GT) ({ frames := 0, cells := 0, slots := 0, locals := 0 } : Room) (PcR [.ref h0, .int 0] dC dI G [(h0, .inr (11, [.ref st, .int 0, .int 0, .ref rp, .int 0, .int 0, .int 0, .int 0, .int (-1), .int (-1), .ref tp, .int 0, .int 0, .int 0, .int 0, .int 0, .int 0, .int 0, .int 0, .ref cu, .ref lt, .ref od, .ref th, .ref be, .ref ln, .int 0, .ref ma, .int 0, .ref ah, .ref bh, .ref ik, .ref la, .ref lg, .ref ce, .int 0]))] sz) (va_Qi (fun (r : Int32) (u : Unit) => match u with | _ => (r = -4) ∧ True) (fun _ _ => True) (fun q : Nat => sz ≤ q)) 0 0 (fun q : Nat => sz ≤ q) := by
  refine Met.ofW (cc := cX11_byteAt) (maxL := 2) (ret := (some .int)) (by decide) rfl ?_
  intro p e s m args below meth c s₁ B hml hv
  obtain ⟨rfl, hsz, hP, hK⟩ := hv
  have hx := B.exec
  have hb := B.bytes
  have hr := B.returns
  have hg : ∀ w ∈ GT, w.before ([.ref h0, .int 0] : List Value).toArray s = true := fun w h => atoms_spec (ws := Cond.code yX11_byteAt cX11_byteAt 2 (some .int) :: GT) B.pre w (List.mem_cons_of_mem _ h)
  have hown : s.vm.findClass RX11 = some m.cls := findClass_of_methodNamed B.named
  have hlocks := B.notSynchronized
  subst hsz
  have hA : ∀ q : Nat, s.heap.size ≤ q → (fun q : Nat => s.heap.size ≤ q) q := fun _ h => h
  have hS : va_S (fun q : Nat => s.heap.size ≤ q) s.heap s.heap [] := va_S.rf
  have hl := lv_entry ([.ref h0, .int 0]) (n := 2) (Nat.le_of_ble_eq_true rfl)
  rw [lg_entry_eq]
  generalize (lg_sl ([.ref h0, .int 0]) ++ List.replicate (2 - (lg_sl ([.ref h0, .int 0])).length) Slot.unset).toArray = ls at hl ⊢
  have hl : lv_has ls 2 [(0, .ref h0), (1, .int 0)] := hl
  refine lv_iload_n hx hb dX11_byteAt_0 rfl (lv_at hl 1 rfl) ?_
  refine lv_aload_n hx hb dX11_byteAt_1 rfl (lv_at hl 0 rfl) ?_
  refine va_get (D := (dC, dI)) (ci := 11) (v := .int 0) (C := RX11) (T := TX11) (N := 35) hx hb hg inG11 hown hK.1 hP 0 rfl rfl 11 (by decide) (hg _ wt_889) (fun _ h9 => h9) rfl dX11_byteAt_2 ?_
  refine lv_icmp_ge (tgt := 17) hx hb dX11_byteAt_5 (by decide) (fun c1 => ?_) (fun c1 => ?_)
  · skip
    refine lv_bipush (v := (-4)) hx hb dX11_byteAt_17 (by decide) ?_
    have hpost : ((-4) : Int32) = -4 := by
      have t_c1 := leI c1
      have : (0 : Int32).toInt = 0 := (by decide)
      first | rfl | ((repeat' split) <;> first | rfl | omega)
    refine W.widen (k := 0) (n := 0) (by omega) (by omega) ?_
    exact W.iret (v := (-4)) hx hb hr (fun t ht hW => ⟨⟨(-4), (), rfl, ⟨hpost, trivial⟩, trivial⟩, hS.F ht⟩) hS.2.2 dX11_byteAt_19
  · skip
    exact absurd c1 (by decide)

set_option maxHeartbeats 4000000 in
set_option maxRecDepth 100000 in
theorem c_X11_goesOn (l : Launch) (dC : Nat → ClassId) (dI : Nat → Nat → Nat) (G : Nat → ClassId) (sz : Nat) (h0 st rp tp cu lt od th be ln ma ah bh ik la lg ce : Nat)    : Met l yX11_goesOn (Cond.code yX11_goesOn cX11_goesOn 2 none :: GT) ({ frames := 1, cells := 0, slots := 0, locals := 21 } : Room) (PcW [.ref h0] dC dI G [(h0, .inr (11, [.ref st, .int 0, .int 0, .ref rp, .int 0, .int 0, .int 0, .int 0, .int (-1), .int (-1), .ref tp, .int 0, .int 0, .int 0, .int 0, .int 0, .int 0, .int 0, .int 0, .ref cu, .ref lt, .ref od, .ref th, .ref be, .ref ln, .int 0, .ref ma, .int 0, .ref ah, .ref bh, .ref ik, .ref la, .ref lg, .ref ce, .int 0]))] sz) (va_Qv (fun (u : Unit) => match u with | _ => True) (fun (u : Unit) (t : State) => match u with | _ => va_P (dC, dI) vwCl [(h0, .inr (11, [.ref st, .int 0, .int 0, .ref rp, .int 0, .int 0, .int 0, .int 0, .int (-1), .int (-1), .ref tp, .int 0, .int 0, .int 0, .int 0, .int 0, .int 0, .int 0, .int 0, .ref cu, .ref lt, .ref od, .ref th, .ref be, .ref ln, .int 0, .ref ma, .int 0, .ref ah, .ref bh, .ref ik, .ref la, .ref lg, .ref ce, .int 0]))] t.heap ∧ va_D (va_A [(h0, .inr (11, [.ref st, .int 0, .int 0, .ref rp, .int 0, .int 0, .int 0, .int 0, .int (-1), .int (-1), .ref tp, .int 0, .int 0, .int 0, .int 0, .int 0, .int 0, .int 0, .int 0, .ref cu, .ref lt, .ref od, .ref th, .ref be, .ref ln, .int 0, .ref ma, .int 0, .ref ah, .ref bh, .ref ik, .ref la, .ref lg, .ref ce, .int 0]))] sz) [(h0, .inr (11, [.ref st, .int 0, .int 0, .ref rp, .int 0, .int 0, .int 0, .int 0, .int (-1), .int (-1), .ref tp, .int 0, .int 0, .int 0, .int 0, .int 0, .int 0, .int 0, .int 0, .ref cu, .ref lt, .ref od, .ref th, .ref be, .ref ln, .int 0, .ref ma, .int 0, .ref ah, .ref bh, .ref ik, .ref la, .ref lg, .ref ce, .int 0]))]) (va_A [(h0, .inr (11, [.ref st, .int 0, .int 0, .ref rp, .int 0, .int 0, .int 0, .int 0, .int (-1), .int (-1), .ref tp, .int 0, .int 0, .int 0, .int 0, .int 0, .int 0, .int 0, .int 0, .ref cu, .ref lt, .ref od, .ref th, .ref be, .ref ln, .int 0, .ref ma, .int 0, .ref ah, .ref bh, .ref ik, .ref la, .ref lg, .ref ce, .int 0]))] sz)) 0 0 (va_A [(h0, .inr (11, [.ref st, .int 0, .int 0, .ref rp, .int 0, .int 0, .int 0, .int 0, .int (-1), .int (-1), .ref tp, .int 0, .int 0, .int 0, .int 0, .int 0, .int 0, .int 0, .int 0, .ref cu, .ref lt, .ref od, .ref th, .ref be, .ref ln, .int 0, .ref ma, .int 0, .ref ah, .ref bh, .ref ik, .ref la, .ref lg, .ref ce, .int 0]))] sz) := by
  refine Met.ofW (cc := cX11_goesOn) (maxL := 2) (ret := none) (by decide) rfl ?_
  intro p e s m args below meth c s₁ B hml hv
  obtain ⟨rfl, hsz, hP, hK, hD0⟩ := hv
  have hx := B.exec
  have hb := B.bytes
  have hr := B.returns
  have hg : ∀ w ∈ GT, w.before ([.ref h0] : List Value).toArray s = true := fun w h => atoms_spec (ws := Cond.code yX11_goesOn cX11_goesOn 2 none :: GT) B.pre w (List.mem_cons_of_mem _ h)
  have hown : s.vm.findClass RX11 = some m.cls := findClass_of_methodNamed B.named
  have hlocks := B.notSynchronized
  subst hsz
  have hD := hD0.self (sz := s.heap.size)
  generalize hAe : va_A [(h0, .inr (11, [.ref st, .int 0, .int 0, .ref rp, .int 0, .int 0, .int 0, .int 0, .int (-1), .int (-1), .ref tp, .int 0, .int 0, .int 0, .int 0, .int 0, .int 0, .int 0, .int 0, .ref cu, .ref lt, .ref od, .ref th, .ref be, .ref ln, .int 0, .ref ma, .int 0, .ref ah, .ref bh, .ref ik, .ref la, .ref lg, .ref ce, .int 0]))] s.heap.size = A at hD ⊢
  have hA : ∀ q : Nat, s.heap.size ≤ q → A q := fun q h => by rw [← hAe]; exact Or.inr h
  have hS : va_S A s.heap s.heap [] := va_S.rf
  have hl := lv_entry ([.ref h0]) (n := 2) (Nat.le_of_ble_eq_true rfl)
  rw [lg_entry_eq]
  generalize (lg_sl ([.ref h0]) ++ List.replicate (2 - (lg_sl ([.ref h0])).length) Slot.unset).toArray = ls at hl ⊢
  have hl : lv_has ls 2 [(0, .ref h0)] := hl
  refine lv_aload_n hx hb dX11_goesOn_0 rfl (lv_at hl 0 rfl) ?_
  refine va_get (D := (dC, dI)) (ci := 11) (v := .int 0) (C := RX11) (T := TX11) (N := 35) hx hb hg inG11 hown hK.1 hP 0 rfl rfl 13 (by decide) (hg _ wt_891) (fun _ h9 => h9) rfl dX11_goesOn_1 ?_
  refine lv_if_le (tgt := 8) hx hb dX11_goesOn_4 (by decide) (fun c1 => ?_) (fun c1 => ?_)
  · skip
    refine lv_aload_n hx hb dX11_goesOn_8 rfl (lv_at hl 0 rfl) ?_
    refine lv_aload_n hx hb dX11_goesOn_9 rfl (lv_at hl 0 rfl) ?_
    refine va_get (D := (dC, dI)) (ci := 11) (v := .int 0) (C := RX11) (T := TX11) (N := 35) hx hb hg inG11 hown hK.1 hP 0 rfl rfl 15 (by decide) (hg _ wt_893) (fun _ h9 => h9) rfl dX11_goesOn_10 ?_
    have hPc := hP.sub (ws' := [(h0, .inr (11, [.ref st, .int 0, .int 0, .ref rp, .int 0, .int 0, .int 0, .int 0, .int (-1), .int (-1), .ref tp, .int 0, .int 0, .int 0, .int 0, .int 0, .int 0, .int 0, .int 0, .ref cu, .ref lt, .ref od, .ref th, .ref be, .ref ln, .int 0, .ref ma, .int 0, .ref ah, .ref bh, .ref ik, .ref la, .ref lg, .ref ce, .int 0]))]) [0] rfl
    refine va_calli (va_runV (As := [.int 0]) (rest := []) ⟨hx, hb, hml, hown, hg⟩ (c_X11_byteAt l dC dI G _ h0 st rp tp cu lt od th be ln ma ah bh ik la lg ce ) (kwV hg mfX11_byteAt wt_1003 ⟨Nat.le_of_ble_eq_true rfl, Nat.le_of_ble_eq_true rfl⟩) (preVR hK hPc (ci := 11) rfl rfl) rfl rfl hl.1 rfl (lv_room (Nat.le_of_ble_eq_true rfl)) dX11_goesOn_13 ⟨Nat.le_of_ble_eq_true rfl, Nat.le_of_ble_eq_true rfl⟩) hS (fun q h1 h2 => absurd h2 (Nat.not_le.mpr h1)) (fun q h => hA q (Nat.le_trans hS.1 h)) (fun r2 ur2 t H1 locs ht hvm w3 hB hz1 hk1 hS => ?_)
    have hP := keepR hP hk1
    obtain ⟨w3, w3x⟩ := w3
    subst w3
    refine lv_bipush (v := 32) hx hb dX11_goesOn_16 (by decide) ?_
    refine lv_icmp_ne (tgt := 34) hx hb dX11_goesOn_18 (by decide) (fun c4 => ?_) (fun c4 => ?_)
    · skip
      refine lv_aload_n hx hb dX11_goesOn_34 rfl (lv_at hl 0 rfl) ?_
      refine lv_aload_n hx hb dX11_goesOn_35 rfl (lv_at hl 0 rfl) ?_
      refine va_get (D := (dC, dI)) (ci := 11) (v := .int 0) (C := RX11) (T := TX11) (N := 35) hx hb hg inG11 hown hK.1 hP 0 rfl rfl 15 (by decide) (hg _ wt_893) (fun _ h9 => h9) rfl dX11_goesOn_36 ?_
      refine va_put (D := (dC, dI)) (ci := 11) (v := .int 0) (ty := .int) (C := RX11) (T := TX11) (N := 35) hx hb hg inG11 tyX11 tyX11_ok nmX11 hown hK.1 hP hD hS 0 rfl rfl 16 (by decide) (hg _ wt_894) (fun _ h9 => h9) rfl (by decide +kernel) rfl rfl (Nat.le_of_ble_eq_true rfl) dX11_goesOn_39 (fun H locs hP hD hS => ?_)
      have hP : va_P (dC, dI) vwCl [(h0, .inr (11, [.ref st, .int 0, .int 0, .ref rp, .int 0, .int 0, .int 0, .int 0, .int (-1), .int (-1), .ref tp, .int 0, .int 0, .int 0, .int 0, .int 0, .int 0, .int 0, .int 0, .ref cu, .ref lt, .ref od, .ref th, .ref be, .ref ln, .int 0, .ref ma, .int 0, .ref ah, .ref bh, .ref ik, .ref la, .ref lg, .ref ce, .int 0]))] H := hP
      have hD : va_D A [(h0, .inr (11, [.ref st, .int 0, .int 0, .ref rp, .int 0, .int 0, .int 0, .int 0, .int (-1), .int (-1), .ref tp, .int 0, .int 0, .int 0, .int 0, .int 0, .int 0, .int 0, .int 0, .ref cu, .ref lt, .ref od, .ref th, .ref be, .ref ln, .int 0, .ref ma, .int 0, .ref ah, .ref bh, .ref ik, .ref la, .ref lg, .ref ce, .int 0]))] := hD
      refine lv_aload_n hx hb dX11_goesOn_42 rfl (lv_at hl 0 rfl) ?_
      refine lv_aload_n hx hb dX11_goesOn_43 rfl (lv_at hl 0 rfl) ?_
      refine va_get (D := (dC, dI)) (ci := 11) (v := .int 0) (C := RX11) (T := TX11) (N := 35) hx hb hg inG11 hown hK.1 hP 0 rfl rfl 15 (by decide) (hg _ wt_893) (fun _ h9 => h9) rfl dX11_goesOn_44 ?_
      have hPc := hP.sub (ws' := [(h0, .inr (11, [.ref st, .int 0, .int 0, .ref rp, .int 0, .int 0, .int 0, .int 0, .int (-1), .int (-1), .ref tp, .int 0, .int 0, .int 0, .int 0, .int 0, .int 0, .int 0, .int 0, .ref cu, .ref lt, .ref od, .ref th, .ref be, .ref ln, .int 0, .ref ma, .int 0, .ref ah, .ref bh, .ref ik, .ref la, .ref lg, .ref ce, .int 0]))]) [0] rfl
      refine va_calli (va_runV (As := [.int 0]) (rest := []) ⟨hx, hb, hml, hown, hg⟩ (c_X11_byteAt l dC dI G _ h0 st rp tp cu lt od th be ln ma ah bh ik la lg ce ) (kwV hg mfX11_byteAt wt_1003 ⟨Nat.le_of_ble_eq_true rfl, Nat.le_of_ble_eq_true rfl⟩) (preVR hK hPc (ci := 11) rfl rfl) rfl rfl hl.1 rfl (lv_room (Nat.le_of_ble_eq_true rfl)) dX11_goesOn_47 ⟨Nat.le_of_ble_eq_true rfl, Nat.le_of_ble_eq_true rfl⟩) hS (fun q h1 h2 => absurd h2 (Nat.not_le.mpr h1)) (fun q h => hA q (Nat.le_trans hS.1 h)) (fun r5 ur5 t H1 locs ht hvm w6 hB hz1 hk1 hS => ?_)
      have hP := keepR hP hk1
      obtain ⟨w6, w6x⟩ := w6
      subst w6
      refine lv_istore_n (lv' := [(1, .int (-4)), (0, .ref h0)]) hx hb dX11_goesOn_50 rfl hl (by decide) rfl (fun ls hl => ?_)
      refine lv_aload_n hx hb dX11_goesOn_51 rfl (lv_at hl 1 rfl) ?_
      refine lv_iconst (v := 0) hx hb dX11_goesOn_52 (by decide) ?_
      refine va_put (D := (dC, dI)) (ci := 11) (v := .int 0) (ty := .int) (C := RX11) (T := TX11) (N := 35) hx hb hg inG11 tyX11 tyX11_ok nmX11 hown hK.1 hP hD hS 0 rfl rfl 18 (by decide) (hg _ wt_896) (fun _ h9 => h9) rfl (by decide +kernel) rfl rfl (Nat.le_of_ble_eq_true rfl) dX11_goesOn_53 (fun H locs hP hD hS => ?_)
      have hP : va_P (dC, dI) vwCl [(h0, .inr (11, [.ref st, .int 0, .int 0, .ref rp, .int 0, .int 0, .int 0, .int 0, .int (-1), .int (-1), .ref tp, .int 0, .int 0, .int 0, .int 0, .int 0, .int 0, .int 0, .int 0, .ref cu, .ref lt, .ref od, .ref th, .ref be, .ref ln, .int 0, .ref ma, .int 0, .ref ah, .ref bh, .ref ik, .ref la, .ref lg, .ref ce, .int 0]))] H := hP
      have hD : va_D A [(h0, .inr (11, [.ref st, .int 0, .int 0, .ref rp, .int 0, .int 0, .int 0, .int 0, .int (-1), .int (-1), .ref tp, .int 0, .int 0, .int 0, .int 0, .int 0, .int 0, .int 0, .int 0, .ref cu, .ref lt, .ref od, .ref th, .ref be, .ref ln, .int 0, .ref ma, .int 0, .ref ah, .ref bh, .ref ik, .ref la, .ref lg, .ref ce, .int 0]))] := hD
      refine lv_iload_n hx hb dX11_goesOn_56 rfl (lv_at hl 0 rfl) ?_
      refine lv_bipush (v := (-4)) hx hb dX11_goesOn_57 (by decide) ?_
      refine lv_icmp_ne (tgt := 70) hx hb dX11_goesOn_59 (by decide) (fun c7 => ?_) (fun c7 => ?_)
      · skip
        exact absurd c7 (by decide)
      · skip
        refine lv_aload_n hx hb dX11_goesOn_62 rfl (lv_at hl 1 rfl) ?_
        refine lv_iconst (v := 0) hx hb dX11_goesOn_63 (by decide) ?_
        refine va_put (D := (dC, dI)) (ci := 11) (v := .int 0) (ty := .int) (C := RX11) (T := TX11) (N := 35) hx hb hg inG11 tyX11 tyX11_ok nmX11 hown hK.1 hP hD hS 0 rfl rfl 17 (by decide) (hg _ wt_895) (fun _ h9 => h9) rfl (by decide +kernel) rfl rfl (Nat.le_of_ble_eq_true rfl) dX11_goesOn_64 (fun H locs hP hD hS => ?_)
        have hP : va_P (dC, dI) vwCl [(h0, .inr (11, [.ref st, .int 0, .int 0, .ref rp, .int 0, .int 0, .int 0, .int 0, .int (-1), .int (-1), .ref tp, .int 0, .int 0, .int 0, .int 0, .int 0, .int 0, .int 0, .int 0, .ref cu, .ref lt, .ref od, .ref th, .ref be, .ref ln, .int 0, .ref ma, .int 0, .ref ah, .ref bh, .ref ik, .ref la, .ref lg, .ref ce, .int 0]))] H := hP
        have hD : va_D A [(h0, .inr (11, [.ref st, .int 0, .int 0, .ref rp, .int 0, .int 0, .int 0, .int 0, .int (-1), .int (-1), .ref tp, .int 0, .int 0, .int 0, .int 0, .int 0, .int 0, .int 0, .int 0, .ref cu, .ref lt, .ref od, .ref th, .ref be, .ref ln, .int 0, .ref ma, .int 0, .ref ah, .ref bh, .ref ik, .ref la, .ref lg, .ref ce, .int 0]))] := hD
        refine lv_goto (tgt := 269) hx hb dX11_goesOn_67 (by decide) ?_
        have hP9 := hP.sub (ws' := [(h0, .inr (11, [.ref st, .int 0, .int 0, .ref rp, .int 0, .int 0, .int 0, .int 0, .int (-1), .int (-1), .ref tp, .int 0, .int 0, .int 0, .int 0, .int 0, .int 0, .int 0, .int 0, .ref cu, .ref lt, .ref od, .ref th, .ref be, .ref ln, .int 0, .ref ma, .int 0, .ref ah, .ref bh, .ref ik, .ref la, .ref lg, .ref ce, .int 0]))]) [0] rfl
        have hD9 := hD.sub (ws' := [(h0, .inr (11, [.ref st, .int 0, .int 0, .ref rp, .int 0, .int 0, .int 0, .int 0, .int (-1), .int (-1), .ref tp, .int 0, .int 0, .int 0, .int 0, .int 0, .int 0, .int 0, .int 0, .ref cu, .ref lt, .ref od, .ref th, .ref be, .ref ln, .int 0, .ref ma, .int 0, .ref ah, .ref bh, .ref ik, .ref la, .ref lg, .ref ce, .int 0]))]) [0] (by decide) rfl
        refine W.widen (k := 0) (n := 0) (by omega) (by omega) ?_
        exact W.vret hx hb hr (fun t ht hW => ⟨⟨(), rfl, trivial, ⟨by rw [ht]; exact hP9, hD9⟩⟩, hS.F ht⟩) hS.2.2 dX11_goesOn_269
    · skip
      exact absurd c4 (by decide)
  · skip
    exact absurd c1 (by decide)
