set_option maxHeartbeats 4000000 in
set_option maxRecDepth 100000 in
theorem c_X9_hasStretch (l : Launch) (dC : Nat → ClassId) (dI : Nat → Nat → Nat) (G : Nat → ClassId) (sz : Nat) (h0 a1 a2 a3 a4 a5 a6 : Nat) (n b d : Int32) (i : Int32)  : Met l yX9_hasStretch (Cond.code yX9_hasStretch cX9_hasStretch 2 (some .boolean) :: GT) ({ frames := 0, cells := 0, slots := 0, locals := 0 } : Room) (PcR [.ref h0, .int i] dC dI G [(h0, .inr (9, [.int n, .int b, .int d, .ref a1, .ref a2, .ref a3, .ref a4, .ref a5, .ref a6]))] sz) (va_Qi (fun (r : Int32) (u : Unit) => match u with | _ => (r = if 0 ≤ i.toInt ∧ i.toInt < n.toInt then 1 else 0) ∧ True) (fun _ _ => True) (fun q : Nat => sz ≤ q)) 0 0 (fun q : Nat => sz ≤ q) := by
  refine Met.ofW (cc := cX9_hasStretch) (maxL := 2) (ret := (some .boolean)) (by decide) rfl ?_
  intro p e s m args below meth c s₁ B hml hv
  obtain ⟨rfl, hsz, hP, hK⟩ := hv
  have hx := B.exec
  have hb := B.bytes
  have hr := B.returns
  have hg : ∀ w ∈ GT, w.before ([.ref h0, .int i] : List Value).toArray s = true := fun w h => atoms_spec (ws := Cond.code yX9_hasStretch cX9_hasStretch 2 (some .boolean) :: GT) B.pre w (List.mem_cons_of_mem _ h)
  have hown : s.vm.findClass RX9 = some m.cls := findClass_of_methodNamed B.named
  have hlocks := B.notSynchronized
  subst hsz
  have hA : ∀ q : Nat, s.heap.size ≤ q → (fun q : Nat => s.heap.size ≤ q) q := fun _ h => h
  have hS : va_S (fun q : Nat => s.heap.size ≤ q) s.heap s.heap [] := va_S.rf
  have hl := lv_entry ([.ref h0, .int i]) (n := 2) (Nat.le_of_ble_eq_true rfl)
  rw [lg_entry_eq]
  generalize (lg_sl ([.ref h0, .int i]) ++ List.replicate (2 - (lg_sl ([.ref h0, .int i])).length) Slot.unset).toArray = ls at hl ⊢
  have hl : lv_has ls 2 [(0, .ref h0), (1, .int i)] := hl
  refine lv_iload_n hx hb dX9_hasStretch_0 rfl (lv_at hl 1 rfl) ?_
  refine lv_if_lt (tgt := 16) hx hb dX9_hasStretch_1 (by decide) (fun c1 => ?_) (fun c1 => ?_)
  · skip
    refine lv_iconst (v := 0) hx hb dX9_hasStretch_16 (by decide) ?_
    have hpost : (0 : Int32) = if 0 ≤ i.toInt ∧ i.toInt < n.toInt then 1 else 0 := by
      have t_c1 := ltI c1
      have : (0 : Int32).toInt = 0 := (by decide)
      first | rfl | ((repeat' split) <;> first | rfl | omega)
    refine W.widen (k := 0) (n := 0) (by omega) (by omega) ?_
    exact W.zret (v := 0) hx hb hr (by first | rfl | decide | exact rfl) (fun t ht hW => ⟨⟨0, (), rfl, ⟨hpost, trivial⟩, trivial⟩, hS.F ht⟩) hS.2.2 dX9_hasStretch_17
  · skip
    refine lv_iload_n hx hb dX9_hasStretch_4 rfl (lv_at hl 1 rfl) ?_
    refine lv_aload_n hx hb dX9_hasStretch_5 rfl (lv_at hl 0 rfl) ?_
    refine va_get (D := (dC, dI)) (ci := 9) (v := .int n) (C := RX9) (T := TX9) (N := 9) hx hb hg inG9 hown hK.1 hP 0 rfl rfl 0 (by decide) (hg _ wt_56) (fun _ h9 => h9) rfl dX9_hasStretch_6 ?_
    refine lv_icmp_ge (tgt := 16) hx hb dX9_hasStretch_9 (by decide) (fun c2 => ?_) (fun c2 => ?_)
    · skip
      refine lv_iconst (v := 0) hx hb dX9_hasStretch_16 (by decide) ?_
      have hpost : (0 : Int32) = if 0 ≤ i.toInt ∧ i.toInt < n.toInt then 1 else 0 := by
        have t_c1 := nltI c1
        have t_c2 := leI c2
        have : (0 : Int32).toInt = 0 := (by decide)
        first | rfl | ((repeat' split) <;> first | rfl | omega)
      refine W.widen (k := 0) (n := 0) (by omega) (by omega) ?_
      exact W.zret (v := 0) hx hb hr (by first | rfl | decide | exact rfl) (fun t ht hW => ⟨⟨0, (), rfl, ⟨hpost, trivial⟩, trivial⟩, hS.F ht⟩) hS.2.2 dX9_hasStretch_17
    · skip
      refine lv_iconst (v := 1) hx hb dX9_hasStretch_12 (by decide) ?_
      refine lv_goto (tgt := 17) hx hb dX9_hasStretch_13 (by decide) ?_
      have hpost : (1 : Int32) = if 0 ≤ i.toInt ∧ i.toInt < n.toInt then 1 else 0 := by
        have t_c1 := nltI c1
        have t_c2 := nleI c2
        have : (0 : Int32).toInt = 0 := (by decide)
        first | rfl | ((repeat' split) <;> first | rfl | omega)
      refine W.widen (k := 0) (n := 0) (by omega) (by omega) ?_
      exact W.zret (v := 1) hx hb hr (by first | rfl | decide | exact rfl) (fun t ht hW => ⟨⟨1, (), rfl, ⟨hpost, trivial⟩, trivial⟩, hS.F ht⟩) hS.2.2 dX9_hasStretch_17

set_option maxHeartbeats 4000000 in
set_option maxRecDepth 100000 in
theorem c_X9_hasBearer (l : Launch) (dC : Nat → ClassId) (dI : Nat → Nat → Nat) (G : Nat → ClassId) (sz : Nat) (h0 a1 a2 a3 a4 a5 a6 : Nat) (n b d : Int32) (i : Int32)  : Met l yX9_hasBearer (Cond.code yX9_hasBearer cX9_hasBearer 2 (some .boolean) :: GT) ({ frames := 0, cells := 0, slots := 0, locals := 0 } : Room) (PcR [.ref h0, .int i] dC dI G [(h0, .inr (9, [.int n, .int b, .int d, .ref a1, .ref a2, .ref a3, .ref a4, .ref a5, .ref a6]))] sz) (va_Qi (fun (r : Int32) (u : Unit) => match u with | _ => (r = if 0 ≤ i.toInt ∧ i.toInt < b.toInt then 1 else 0) ∧ True) (fun _ _ => True) (fun q : Nat => sz ≤ q)) 0 0 (fun q : Nat => sz ≤ q) := by
  refine Met.ofW (cc := cX9_hasBearer) (maxL := 2) (ret := (some .boolean)) (by decide) rfl ?_
  intro p e s m args below meth c s₁ B hml hv
  obtain ⟨rfl, hsz, hP, hK⟩ := hv
  have hx := B.exec
  have hb := B.bytes
  have hr := B.returns
  have hg : ∀ w ∈ GT, w.before ([.ref h0, .int i] : List Value).toArray s = true := fun w h => atoms_spec (ws := Cond.code yX9_hasBearer cX9_hasBearer 2 (some .boolean) :: GT) B.pre w (List.mem_cons_of_mem _ h)
  have hown : s.vm.findClass RX9 = some m.cls := findClass_of_methodNamed B.named
  have hlocks := B.notSynchronized
  subst hsz
  have hA : ∀ q : Nat, s.heap.size ≤ q → (fun q : Nat => s.heap.size ≤ q) q := fun _ h => h
  have hS : va_S (fun q : Nat => s.heap.size ≤ q) s.heap s.heap [] := va_S.rf
  have hl := lv_entry ([.ref h0, .int i]) (n := 2) (Nat.le_of_ble_eq_true rfl)
  rw [lg_entry_eq]
  generalize (lg_sl ([.ref h0, .int i]) ++ List.replicate (2 - (lg_sl ([.ref h0, .int i])).length) Slot.unset).toArray = ls at hl ⊢
  have hl : lv_has ls 2 [(0, .ref h0), (1, .int i)] := hl
  refine lv_iload_n hx hb dX9_hasBearer_0 rfl (lv_at hl 1 rfl) ?_
  refine lv_if_lt (tgt := 16) hx hb dX9_hasBearer_1 (by decide) (fun c1 => ?_) (fun c1 => ?_)
  · skip
    refine lv_iconst (v := 0) hx hb dX9_hasBearer_16 (by decide) ?_
    have hpost : (0 : Int32) = if 0 ≤ i.toInt ∧ i.toInt < b.toInt then 1 else 0 := by
      have t_c1 := ltI c1
      have : (0 : Int32).toInt = 0 := (by decide)
      first | rfl | ((repeat' split) <;> first | rfl | omega)
    refine W.widen (k := 0) (n := 0) (by omega) (by omega) ?_
    exact W.zret (v := 0) hx hb hr (by first | rfl | decide | exact rfl) (fun t ht hW => ⟨⟨0, (), rfl, ⟨hpost, trivial⟩, trivial⟩, hS.F ht⟩) hS.2.2 dX9_hasBearer_17
  · skip
    refine lv_iload_n hx hb dX9_hasBearer_4 rfl (lv_at hl 1 rfl) ?_
    refine lv_aload_n hx hb dX9_hasBearer_5 rfl (lv_at hl 0 rfl) ?_
    refine va_get (D := (dC, dI)) (ci := 9) (v := .int b) (C := RX9) (T := TX9) (N := 9) hx hb hg inG9 hown hK.1 hP 0 rfl rfl 1 (by decide) (hg _ wt_62) (fun _ h9 => h9) rfl dX9_hasBearer_6 ?_
    refine lv_icmp_ge (tgt := 16) hx hb dX9_hasBearer_9 (by decide) (fun c2 => ?_) (fun c2 => ?_)
    · skip
      refine lv_iconst (v := 0) hx hb dX9_hasBearer_16 (by decide) ?_
      have hpost : (0 : Int32) = if 0 ≤ i.toInt ∧ i.toInt < b.toInt then 1 else 0 := by
        have t_c1 := nltI c1
        have t_c2 := leI c2
        have : (0 : Int32).toInt = 0 := (by decide)
        first | rfl | ((repeat' split) <;> first | rfl | omega)
      refine W.widen (k := 0) (n := 0) (by omega) (by omega) ?_
      exact W.zret (v := 0) hx hb hr (by first | rfl | decide | exact rfl) (fun t ht hW => ⟨⟨0, (), rfl, ⟨hpost, trivial⟩, trivial⟩, hS.F ht⟩) hS.2.2 dX9_hasBearer_17
    · skip
      refine lv_iconst (v := 1) hx hb dX9_hasBearer_12 (by decide) ?_
      refine lv_goto (tgt := 17) hx hb dX9_hasBearer_13 (by decide) ?_
      have hpost : (1 : Int32) = if 0 ≤ i.toInt ∧ i.toInt < b.toInt then 1 else 0 := by
        have t_c1 := nltI c1
        have t_c2 := nleI c2
        have : (0 : Int32).toInt = 0 := (by decide)
        first | rfl | ((repeat' split) <;> first | rfl | omega)
      refine W.widen (k := 0) (n := 0) (by omega) (by omega) ?_
      exact W.zret (v := 1) hx hb hr (by first | rfl | decide | exact rfl) (fun t ht hW => ⟨⟨1, (), rfl, ⟨hpost, trivial⟩, trivial⟩, hS.F ht⟩) hS.2.2 dX9_hasBearer_17

set_option maxHeartbeats 4000000 in
set_option maxRecDepth 100000 in
theorem c_X9_canHand (l : Launch) (dC : Nat → ClassId) (dI : Nat → Nat → Nat) (G : Nat → ClassId) (sz : Nat) (h0 a1 a2 a3 a4 a5 a6 : Nat) (i g tb : Int32)  : Met l yX9_canHand (Cond.code yX9_canHand cX9_canHand 4 (some .boolean) :: GT) ({ frames := 1, cells := 0, slots := 0, locals := 21 } : Room) (PcR [.ref h0, .int i, .int g, .int tb] dC dI G [(h0, .inr (9, [.int 0, .int 0, .int 5, .ref a1, .ref a2, .ref a3, .ref a4, .ref a5, .ref a6]))] sz) (va_Qi (fun (r : Int32) (u : Unit) => match u with | _ => (r = 0) ∧ True) (fun _ _ => True) (fun q : Nat => sz ≤ q)) 0 0 (fun q : Nat => sz ≤ q) := by
  refine Met.ofW (cc := cX9_canHand) (maxL := 4) (ret := (some .boolean)) (by decide) rfl ?_
  intro p e s m args below meth c s₁ B hml hv
  obtain ⟨rfl, hsz, hP, hK⟩ := hv
  have hx := B.exec
  have hb := B.bytes
  have hr := B.returns
  have hg : ∀ w ∈ GT, w.before ([.ref h0, .int i, .int g, .int tb] : List Value).toArray s = true := fun w h => atoms_spec (ws := Cond.code yX9_canHand cX9_canHand 4 (some .boolean) :: GT) B.pre w (List.mem_cons_of_mem _ h)
  have hown : s.vm.findClass RX9 = some m.cls := findClass_of_methodNamed B.named
  have hlocks := B.notSynchronized
  subst hsz
  have hA : ∀ q : Nat, s.heap.size ≤ q → (fun q : Nat => s.heap.size ≤ q) q := fun _ h => h
  have hS : va_S (fun q : Nat => s.heap.size ≤ q) s.heap s.heap [] := va_S.rf
  have hl := lv_entry ([.ref h0, .int i, .int g, .int tb]) (n := 4) (Nat.le_of_ble_eq_true rfl)
  rw [lg_entry_eq]
  generalize (lg_sl ([.ref h0, .int i, .int g, .int tb]) ++ List.replicate (4 - (lg_sl ([.ref h0, .int i, .int g, .int tb])).length) Slot.unset).toArray = ls at hl ⊢
  have hl : lv_has ls 4 [(0, .ref h0), (1, .int i), (2, .int g), (3, .int tb)] := hl
  refine lv_aload_n hx hb dX9_canHand_0 rfl (lv_at hl 0 rfl) ?_
  refine lv_iload_n hx hb dX9_canHand_1 rfl (lv_at hl 1 rfl) ?_
  have hPc := hP.sub (ws' := [(h0, .inr (9, [.int 0, .int 0, .int 5, .ref a1, .ref a2, .ref a3, .ref a4, .ref a5, .ref a6]))]) [0] rfl
  refine va_calli (va_runV (As := [.int i]) (rest := []) ⟨hx, hb, hml, hown, hg⟩ (c_X9_hasStretch l dC dI G _ h0 a1 a2 a3 a4 a5 a6 0 0 5 i ) (kwV hg mfX9_hasStretch wt_574 ⟨Nat.le_of_ble_eq_true rfl, Nat.le_of_ble_eq_true rfl⟩) (preVR hK hPc (ci := 9) rfl rfl) rfl rfl hl.1 rfl (lv_room (Nat.le_of_ble_eq_true rfl)) dX9_canHand_2 ⟨Nat.le_of_ble_eq_true rfl, Nat.le_of_ble_eq_true rfl⟩) hS (fun q h1 h2 => absurd h2 (Nat.not_le.mpr h1)) (fun q h => hA q (Nat.le_trans hS.1 h)) (fun r1 ur1 t H1 locs ht hvm w2 hB hz1 hk1 hS => ?_)
  have hP := keepR hP hk1
  obtain ⟨w2, w2x⟩ := w2
  try simp only [l_ii, show (0 : Int32).toInt = 0 from by decide, show (0 : Int32).toInt = 0 from by decide] at w2
  have w2 : r1 = 0 := w2.trans (if_neg (by omega))
  subst w2
  refine lv_if_eq (tgt := 34) hx hb dX9_canHand_5 (by decide) (fun c3 => ?_) (fun c3 => ?_)
  · skip
    refine lv_iconst (v := 0) hx hb dX9_canHand_34 (by decide) ?_
    have hpost : (0 : Int32) = 0 := by
      have t_c3 := eqI c3
      have : (0 : Int32).toInt = 0 := (by decide)
      first | rfl | ((repeat' split) <;> first | rfl | omega)
    refine W.widen (k := 0) (n := 0) (by omega) (by omega) ?_
    exact W.zret (v := 0) hx hb hr (by first | rfl | decide | exact rfl) (fun t ht hW => ⟨⟨0, (), rfl, ⟨hpost, trivial⟩, trivial⟩, hS.F ht⟩) hS.2.2 dX9_canHand_35
  · skip
    exact absurd c3 (by decide)

set_option maxHeartbeats 4000000 in
set_option maxRecDepth 100000 in
theorem c_X9_handOvers (l : Launch) (dC : Nat → ClassId) (dI : Nat → Nat → Nat) (G : Nat → ClassId) (sz : Nat) (h0 a1 a2 a3 a4 a5 a6 : Nat)  : Met l yX9_handOvers (Cond.code yX9_handOvers cX9_handOvers 3 (some .int) :: GT) ({ frames := 0, cells := 0, slots := 0, locals := 0 } : Room) (PcR [.ref h0] dC dI G [(h0, .inr (9, [.int 0, .int 0, .int 5, .ref a1, .ref a2, .ref a3, .ref a4, .ref a5, .ref a6]))] sz) (va_Qi (fun (r : Int32) (u : Unit) => match u with | _ => (r = 0) ∧ True) (fun _ _ => True) (fun q : Nat => sz ≤ q)) 0 0 (fun q : Nat => sz ≤ q) := by
  refine Met.ofW (cc := cX9_handOvers) (maxL := 3) (ret := (some .int)) (by decide) rfl ?_
  intro p e s m args below meth c s₁ B hml hv
  obtain ⟨rfl, hsz, hP, hK⟩ := hv
  have hx := B.exec
  have hb := B.bytes
  have hr := B.returns
  have hg : ∀ w ∈ GT, w.before ([.ref h0] : List Value).toArray s = true := fun w h => atoms_spec (ws := Cond.code yX9_handOvers cX9_handOvers 3 (some .int) :: GT) B.pre w (List.mem_cons_of_mem _ h)
  have hown : s.vm.findClass RX9 = some m.cls := findClass_of_methodNamed B.named
  have hlocks := B.notSynchronized
  subst hsz
  have hA : ∀ q : Nat, s.heap.size ≤ q → (fun q : Nat => s.heap.size ≤ q) q := fun _ h => h
  have hS : va_S (fun q : Nat => s.heap.size ≤ q) s.heap s.heap [] := va_S.rf
  have hl := lv_entry ([.ref h0]) (n := 3) (Nat.le_of_ble_eq_true rfl)
  rw [lg_entry_eq]
  generalize (lg_sl ([.ref h0]) ++ List.replicate (3 - (lg_sl ([.ref h0])).length) Slot.unset).toArray = ls at hl ⊢
  have hl : lv_has ls 3 [(0, .ref h0)] := hl
  refine lv_iconst (v := 0) hx hb dX9_handOvers_0 (by decide) ?_
  refine lv_istore_n (lv' := [(1, .int 0), (0, .ref h0)]) hx hb dX9_handOvers_1 rfl hl (by decide) rfl (fun ls hl => ?_)
  refine lv_iconst (v := 1) hx hb dX9_handOvers_2 (by decide) ?_
  refine lv_istore_n (lv' := [(2, .int 1), (1, .int 0), (0, .ref h0)]) hx hb dX9_handOvers_3 rfl hl (by decide) rfl (fun ls hl => ?_)
  refine lv_iload_n hx hb dX9_handOvers_4 rfl (lv_at hl 0 rfl) ?_
  refine lv_aload_n hx hb dX9_handOvers_5 rfl (lv_at hl 2 rfl) ?_
  refine va_get (D := (dC, dI)) (ci := 9) (v := .int 0) (C := RX9) (T := TX9) (N := 9) hx hb hg inG9 hown hK.1 hP 0 rfl rfl 0 (by decide) (hg _ wt_56) (fun _ h9 => h9) rfl dX9_handOvers_6 ?_
  refine lv_icmp_ge (tgt := 38) hx hb dX9_handOvers_9 (by decide) (fun c1 => ?_) (fun c1 => ?_)
  · skip
    refine lv_iload_n hx hb dX9_handOvers_38 rfl (lv_at hl 1 rfl) ?_
    have hpost : (0 : Int32) = 0 := by
      have t_c1 := leI c1
      have : (0 : Int32).toInt = 0 := (by decide)
      have : (1 : Int32).toInt = 1 := (by decide)
      first | rfl | ((repeat' split) <;> first | rfl | omega)
    refine W.widen (k := 0) (n := 0) (by omega) (by omega) ?_
    exact W.iret (v := 0) hx hb hr (fun t ht hW => ⟨⟨0, (), rfl, ⟨hpost, trivial⟩, trivial⟩, hS.F ht⟩) hS.2.2 dX9_handOvers_39
  · skip
    exact absurd c1 (by decide)

set_option maxHeartbeats 4000000 in
set_option maxRecDepth 100000 in
theorem c_X9_copyOf (l : Launch) (dC : Nat → ClassId) (dI : Nat → Nat → Nat) (G : Nat → ClassId) (sz : Nat) (h0 o0 a1 a2 a3 a4 a5 a6 c1 c2 c3 c4 c5 c6 : Nat) (n b d n2 b2 d2 : Int32) (fa1 fa2 fa3 fa4 fa5 fa6 fc1 fc2 fc3 fc4 fc5 fc6 : Nat → Int32)  : Met l yX9_copyOf (Cond.code yX9_copyOf cX9_copyOf 2 none :: GT) ({ frames := 1, cells := 0, slots := 0, locals := 100 } : Room) (PcW [.ref h0, .ref o0] dC dI G [(h0, .inr (9, [.int n, .int b, .int d, .ref a1, .ref a2, .ref a3, .ref a4, .ref a5, .ref a6])), (a1, .inl (G 0, 10, .inl fa1)), (a2, .inl (G 0, 10, .inl fa2)), (a3, .inl (G 0, 10, .inl fa3)), (a4, .inl (G 0, 6, .inl fa4)), (a5, .inl (G 0, 6, .inl fa5)), (a6, .inl (G 0, 6, .inl fa6)), (o0, .inr (9, [.int n2, .int b2, .int d2, .ref c1, .ref c2, .ref c3, .ref c4, .ref c5, .ref c6])), (c1, .inl (G 0, 10, .inl fc1)), (c2, .inl (G 0, 10, .inl fc2)), (c3, .inl (G 0, 10, .inl fc3)), (c4, .inl (G 0, 6, .inl fc4)), (c5, .inl (G 0, 6, .inl fc5)), (c6, .inl (G 0, 6, .inl fc6))] sz) (va_Qv (fun (u : Unit) => match u with | _ => True) (fun (u : Unit) (t : State) => match u with | _ => va_P (dC, dI) vwCl [(o0, .inr (9, [.int n2, .int b2, .int d2, .ref c1, .ref c2, .ref c3, .ref c4, .ref c5, .ref c6]))] t.heap ∧ va_D (va_A [(h0, .inr (9, [.int n, .int b, .int d, .ref a1, .ref a2, .ref a3, .ref a4, .ref a5, .ref a6])), (a1, .inl (G 0, 10, .inl fa1)), (a2, .inl (G 0, 10, .inl fa2)), (a3, .inl (G 0, 10, .inl fa3)), (a4, .inl (G 0, 6, .inl fa4)), (a5, .inl (G 0, 6, .inl fa5)), (a6, .inl (G 0, 6, .inl fa6)), (o0, .inr (9, [.int n2, .int b2, .int d2, .ref c1, .ref c2, .ref c3, .ref c4, .ref c5, .ref c6])), (c1, .inl (G 0, 10, .inl fc1)), (c2, .inl (G 0, 10, .inl fc2)), (c3, .inl (G 0, 10, .inl fc3)), (c4, .inl (G 0, 6, .inl fc4)), (c5, .inl (G 0, 6, .inl fc5)), (c6, .inl (G 0, 6, .inl fc6))] sz) [(o0, .inr (9, [.int n2, .int b2, .int d2, .ref c1, .ref c2, .ref c3, .ref c4, .ref c5, .ref c6]))]) (va_A [(h0, .inr (9, [.int n, .int b, .int d, .ref a1, .ref a2, .ref a3, .ref a4, .ref a5, .ref a6])), (a1, .inl (G 0, 10, .inl fa1)), (a2, .inl (G 0, 10, .inl fa2)), (a3, .inl (G 0, 10, .inl fa3)), (a4, .inl (G 0, 6, .inl fa4)), (a5, .inl (G 0, 6, .inl fa5)), (a6, .inl (G 0, 6, .inl fa6)), (o0, .inr (9, [.int n2, .int b2, .int d2, .ref c1, .ref c2, .ref c3, .ref c4, .ref c5, .ref c6])), (c1, .inl (G 0, 10, .inl fc1)), (c2, .inl (G 0, 10, .inl fc2)), (c3, .inl (G 0, 10, .inl fc3)), (c4, .inl (G 0, 6, .inl fc4)), (c5, .inl (G 0, 6, .inl fc5)), (c6, .inl (G 0, 6, .inl fc6))] sz)) 0 0 (va_A [(h0, .inr (9, [.int n, .int b, .int d, .ref a1, .ref a2, .ref a3, .ref a4, .ref a5, .ref a6])), (a1, .inl (G 0, 10, .inl fa1)), (a2, .inl (G 0, 10, .inl fa2)), (a3, .inl (G 0, 10, .inl fa3)), (a4, .inl (G 0, 6, .inl fa4)), (a5, .inl (G 0, 6, .inl fa5)), (a6, .inl (G 0, 6, .inl fa6)), (o0, .inr (9, [.int n2, .int b2, .int d2, .ref c1, .ref c2, .ref c3, .ref c4, .ref c5, .ref c6])), (c1, .inl (G 0, 10, .inl fc1)), (c2, .inl (G 0, 10, .inl fc2)), (c3, .inl (G 0, 10, .inl fc3)), (c4, .inl (G 0, 6, .inl fc4)), (c5, .inl (G 0, 6, .inl fc5)), (c6, .inl (G 0, 6, .inl fc6))] sz) := by
  refine Met.ofW (cc := cX9_copyOf) (maxL := 2) (ret := none) (by decide) rfl ?_
  intro p e s m args below meth c s₁ B hml hv
  obtain ⟨rfl, hsz, hP, hK, hD0⟩ := hv
  have hx := B.exec
  have hb := B.bytes
  have hr := B.returns
  have hg : ∀ w ∈ GT, w.before ([.ref h0, .ref o0] : List Value).toArray s = true := fun w h => atoms_spec (ws := Cond.code yX9_copyOf cX9_copyOf 2 none :: GT) B.pre w (List.mem_cons_of_mem _ h)
  have hown : s.vm.findClass RX9 = some m.cls := findClass_of_methodNamed B.named
  have hlocks := B.notSynchronized
  subst hsz
  have hD := hD0.self (sz := s.heap.size)
  generalize hAe : va_A [(h0, .inr (9, [.int n, .int b, .int d, .ref a1, .ref a2, .ref a3, .ref a4, .ref a5, .ref a6])), (a1, .inl (G 0, 10, .inl fa1)), (a2, .inl (G 0, 10, .inl fa2)), (a3, .inl (G 0, 10, .inl fa3)), (a4, .inl (G 0, 6, .inl fa4)), (a5, .inl (G 0, 6, .inl fa5)), (a6, .inl (G 0, 6, .inl fa6)), (o0, .inr (9, [.int n2, .int b2, .int d2, .ref c1, .ref c2, .ref c3, .ref c4, .ref c5, .ref c6])), (c1, .inl (G 0, 10, .inl fc1)), (c2, .inl (G 0, 10, .inl fc2)), (c3, .inl (G 0, 10, .inl fc3)), (c4, .inl (G 0, 6, .inl fc4)), (c5, .inl (G 0, 6, .inl fc5)), (c6, .inl (G 0, 6, .inl fc6))] s.heap.size = A at hD ⊢
  have hA : ∀ q : Nat, s.heap.size ≤ q → A q := fun q h => by rw [← hAe]; exact Or.inr h
  have hS : va_S A s.heap s.heap [] := va_S.rf
  have hl := lv_entry ([.ref h0, .ref o0]) (n := 2) (Nat.le_of_ble_eq_true rfl)
  rw [lg_entry_eq]
  generalize (lg_sl ([.ref h0, .ref o0]) ++ List.replicate (2 - (lg_sl ([.ref h0, .ref o0])).length) Slot.unset).toArray = ls at hl ⊢
  have hl : lv_has ls 2 [(0, .ref h0), (1, .ref o0)] := hl
  refine lv_aload_n hx hb dX9_copyOf_0 rfl (lv_at hl 0 rfl) ?_
  refine lv_aload_n hx hb dX9_copyOf_1 rfl (lv_at hl 1 rfl) ?_
  refine va_get (D := (dC, dI)) (ci := 9) (v := .int n2) (C := RX9) (T := TX9) (N := 9) hx hb hg inG9 hown hK.1 hP 7 rfl rfl 0 (by decide) (hg _ wt_56) (fun _ h9 => h9) rfl dX9_copyOf_2 ?_
  refine va_put (D := (dC, dI)) (ci := 9) (v := .int n2) (ty := .int) (C := RX9) (T := TX9) (N := 9) hx hb hg inG9 tyX9 tyX9_ok nmX9 hown hK.1 hP hD hS 0 rfl rfl 0 (by decide) (hg _ wt_56) (fun _ h9 => h9) rfl (by decide +kernel) rfl rfl (Nat.le_of_ble_eq_true rfl) dX9_copyOf_5 (fun H locs hP hD hS => ?_)
  have hP : va_P (dC, dI) vwCl [(h0, .inr (9, [.int n2, .int b, .int d, .ref a1, .ref a2, .ref a3, .ref a4, .ref a5, .ref a6])), (a1, .inl (G 0, 10, .inl fa1)), (a2, .inl (G 0, 10, .inl fa2)), (a3, .inl (G 0, 10, .inl fa3)), (a4, .inl (G 0, 6, .inl fa4)), (a5, .inl (G 0, 6, .inl fa5)), (a6, .inl (G 0, 6, .inl fa6)), (o0, .inr (9, [.int n2, .int b2, .int d2, .ref c1, .ref c2, .ref c3, .ref c4, .ref c5, .ref c6])), (c1, .inl (G 0, 10, .inl fc1)), (c2, .inl (G 0, 10, .inl fc2)), (c3, .inl (G 0, 10, .inl fc3)), (c4, .inl (G 0, 6, .inl fc4)), (c5, .inl (G 0, 6, .inl fc5)), (c6, .inl (G 0, 6, .inl fc6))] H := hP
  have hD : va_D A [(h0, .inr (9, [.int n2, .int b, .int d, .ref a1, .ref a2, .ref a3, .ref a4, .ref a5, .ref a6])), (a1, .inl (G 0, 10, .inl fa1)), (a2, .inl (G 0, 10, .inl fa2)), (a3, .inl (G 0, 10, .inl fa3)), (a4, .inl (G 0, 6, .inl fa4)), (a5, .inl (G 0, 6, .inl fa5)), (a6, .inl (G 0, 6, .inl fa6)), (o0, .inr (9, [.int n2, .int b2, .int d2, .ref c1, .ref c2, .ref c3, .ref c4, .ref c5, .ref c6])), (c1, .inl (G 0, 10, .inl fc1)), (c2, .inl (G 0, 10, .inl fc2)), (c3, .inl (G 0, 10, .inl fc3)), (c4, .inl (G 0, 6, .inl fc4)), (c5, .inl (G 0, 6, .inl fc5)), (c6, .inl (G 0, 6, .inl fc6))] := hD
  refine lv_aload_n hx hb dX9_copyOf_8 rfl (lv_at hl 0 rfl) ?_
  refine lv_aload_n hx hb dX9_copyOf_9 rfl (lv_at hl 1 rfl) ?_
  refine va_get (D := (dC, dI)) (ci := 9) (v := .int b2) (C := RX9) (T := TX9) (N := 9) hx hb hg inG9 hown hK.1 hP 7 rfl rfl 1 (by decide) (hg _ wt_62) (fun _ h9 => h9) rfl dX9_copyOf_10 ?_
  refine va_put (D := (dC, dI)) (ci := 9) (v := .int b2) (ty := .int) (C := RX9) (T := TX9) (N := 9) hx hb hg inG9 tyX9 tyX9_ok nmX9 hown hK.1 hP hD hS 0 rfl rfl 1 (by decide) (hg _ wt_62) (fun _ h9 => h9) rfl (by decide +kernel) rfl rfl (Nat.le_of_ble_eq_true rfl) dX9_copyOf_13 (fun H locs hP hD hS => ?_)
  have hP : va_P (dC, dI) vwCl [(h0, .inr (9, [.int n2, .int b2, .int d, .ref a1, .ref a2, .ref a3, .ref a4, .ref a5, .ref a6])), (a1, .inl (G 0, 10, .inl fa1)), (a2, .inl (G 0, 10, .inl fa2)), (a3, .inl (G 0, 10, .inl fa3)), (a4, .inl (G 0, 6, .inl fa4)), (a5, .inl (G 0, 6, .inl fa5)), (a6, .inl (G 0, 6, .inl fa6)), (o0, .inr (9, [.int n2, .int b2, .int d2, .ref c1, .ref c2, .ref c3, .ref c4, .ref c5, .ref c6])), (c1, .inl (G 0, 10, .inl fc1)), (c2, .inl (G 0, 10, .inl fc2)), (c3, .inl (G 0, 10, .inl fc3)), (c4, .inl (G 0, 6, .inl fc4)), (c5, .inl (G 0, 6, .inl fc5)), (c6, .inl (G 0, 6, .inl fc6))] H := hP
  have hD : va_D A [(h0, .inr (9, [.int n2, .int b2, .int d, .ref a1, .ref a2, .ref a3, .ref a4, .ref a5, .ref a6])), (a1, .inl (G 0, 10, .inl fa1)), (a2, .inl (G 0, 10, .inl fa2)), (a3, .inl (G 0, 10, .inl fa3)), (a4, .inl (G 0, 6, .inl fa4)), (a5, .inl (G 0, 6, .inl fa5)), (a6, .inl (G 0, 6, .inl fa6)), (o0, .inr (9, [.int n2, .int b2, .int d2, .ref c1, .ref c2, .ref c3, .ref c4, .ref c5, .ref c6])), (c1, .inl (G 0, 10, .inl fc1)), (c2, .inl (G 0, 10, .inl fc2)), (c3, .inl (G 0, 10, .inl fc3)), (c4, .inl (G 0, 6, .inl fc4)), (c5, .inl (G 0, 6, .inl fc5)), (c6, .inl (G 0, 6, .inl fc6))] := hD
  refine lv_aload_n hx hb dX9_copyOf_16 rfl (lv_at hl 0 rfl) ?_
  refine lv_aload_n hx hb dX9_copyOf_17 rfl (lv_at hl 1 rfl) ?_
  refine va_get (D := (dC, dI)) (ci := 9) (v := .int d2) (C := RX9) (T := TX9) (N := 9) hx hb hg inG9 hown hK.1 hP 7 rfl rfl 2 (by decide) (hg _ wt_66) (fun _ h9 => h9) rfl dX9_copyOf_18 ?_
  refine va_put (D := (dC, dI)) (ci := 9) (v := .int d2) (ty := .int) (C := RX9) (T := TX9) (N := 9) hx hb hg inG9 tyX9 tyX9_ok nmX9 hown hK.1 hP hD hS 0 rfl rfl 2 (by decide) (hg _ wt_66) (fun _ h9 => h9) rfl (by decide +kernel) rfl rfl (Nat.le_of_ble_eq_true rfl) dX9_copyOf_21 (fun H locs hP hD hS => ?_)
  have hP : va_P (dC, dI) vwCl [(h0, .inr (9, [.int n2, .int b2, .int d2, .ref a1, .ref a2, .ref a3, .ref a4, .ref a5, .ref a6])), (a1, .inl (G 0, 10, .inl fa1)), (a2, .inl (G 0, 10, .inl fa2)), (a3, .inl (G 0, 10, .inl fa3)), (a4, .inl (G 0, 6, .inl fa4)), (a5, .inl (G 0, 6, .inl fa5)), (a6, .inl (G 0, 6, .inl fa6)), (o0, .inr (9, [.int n2, .int b2, .int d2, .ref c1, .ref c2, .ref c3, .ref c4, .ref c5, .ref c6])), (c1, .inl (G 0, 10, .inl fc1)), (c2, .inl (G 0, 10, .inl fc2)), (c3, .inl (G 0, 10, .inl fc3)), (c4, .inl (G 0, 6, .inl fc4)), (c5, .inl (G 0, 6, .inl fc5)), (c6, .inl (G 0, 6, .inl fc6))] H := hP
  have hD : va_D A [(h0, .inr (9, [.int n2, .int b2, .int d2, .ref a1, .ref a2, .ref a3, .ref a4, .ref a5, .ref a6])), (a1, .inl (G 0, 10, .inl fa1)), (a2, .inl (G 0, 10, .inl fa2)), (a3, .inl (G 0, 10, .inl fa3)), (a4, .inl (G 0, 6, .inl fa4)), (a5, .inl (G 0, 6, .inl fa5)), (a6, .inl (G 0, 6, .inl fa6)), (o0, .inr (9, [.int n2, .int b2, .int d2, .ref c1, .ref c2, .ref c3, .ref c4, .ref c5, .ref c6])), (c1, .inl (G 0, 10, .inl fc1)), (c2, .inl (G 0, 10, .inl fc2)), (c3, .inl (G 0, 10, .inl fc3)), (c4, .inl (G 0, 6, .inl fc4)), (c5, .inl (G 0, 6, .inl fc5)), (c6, .inl (G 0, 6, .inl fc6))] := hD
  refine lv_aload_n hx hb dX9_copyOf_24 rfl (lv_at hl 1 rfl) ?_
  refine va_get (D := (dC, dI)) (ci := 9) (v := .ref c1) (C := RX9) (T := TX9) (N := 9) hx hb hg inG9 hown hK.1 hP 7 rfl rfl 3 (by decide) (hg _ wt_73) (fun _ h9 => h9) rfl dX9_copyOf_25 ?_
  refine lv_iconst (v := 0) hx hb dX9_copyOf_28 (by decide) ?_
  refine lv_aload_n hx hb dX9_copyOf_29 rfl (lv_at hl 0 rfl) ?_
  refine va_get (D := (dC, dI)) (ci := 9) (v := .ref a1) (C := RX9) (T := TX9) (N := 9) hx hb hg inG9 hown hK.1 hP 0 rfl rfl 3 (by decide) (hg _ wt_73) (fun _ h9 => h9) rfl dX9_copyOf_30 ?_
  refine lv_iconst (v := 0) hx hb dX9_copyOf_33 (by decide) ?_
  refine lv_bipush (v := 10) hx hb dX9_copyOf_34 (by decide) ?_
  refine va_copyi hx hb (by rw [hml]; exact hl.1.symm) hown (hg _ wt_511) (hg _ wt_513) (hg _ wt_512) (hg _ wt_18) hK.1 hP hD hS 8 1 0 0 rfl rfl rfl rfl rfl (by decide) (by decide) (by decide) (by decide) (by decide) (fun _ _ => rfl) (Nat.le_of_ble_eq_true rfl) (Nat.le_of_ble_eq_true rfl) dX9_copyOf_36 (fun H locs hP hD hS => ?_)
  have hP : va_P (dC, dI) vwCl [(h0, .inr (9, [.int n2, .int b2, .int d2, .ref a1, .ref a2, .ref a3, .ref a4, .ref a5, .ref a6])), (a1, .inl (G 0, 10, .inl (va_cpy fc1 fa1 0 0 10))), (a2, .inl (G 0, 10, .inl fa2)), (a3, .inl (G 0, 10, .inl fa3)), (a4, .inl (G 0, 6, .inl fa4)), (a5, .inl (G 0, 6, .inl fa5)), (a6, .inl (G 0, 6, .inl fa6)), (o0, .inr (9, [.int n2, .int b2, .int d2, .ref c1, .ref c2, .ref c3, .ref c4, .ref c5, .ref c6])), (c1, .inl (G 0, 10, .inl fc1)), (c2, .inl (G 0, 10, .inl fc2)), (c3, .inl (G 0, 10, .inl fc3)), (c4, .inl (G 0, 6, .inl fc4)), (c5, .inl (G 0, 6, .inl fc5)), (c6, .inl (G 0, 6, .inl fc6))] H := hP
  have hD : va_D A [(h0, .inr (9, [.int n2, .int b2, .int d2, .ref a1, .ref a2, .ref a3, .ref a4, .ref a5, .ref a6])), (a1, .inl (G 0, 10, .inl (va_cpy fc1 fa1 0 0 10))), (a2, .inl (G 0, 10, .inl fa2)), (a3, .inl (G 0, 10, .inl fa3)), (a4, .inl (G 0, 6, .inl fa4)), (a5, .inl (G 0, 6, .inl fa5)), (a6, .inl (G 0, 6, .inl fa6)), (o0, .inr (9, [.int n2, .int b2, .int d2, .ref c1, .ref c2, .ref c3, .ref c4, .ref c5, .ref c6])), (c1, .inl (G 0, 10, .inl fc1)), (c2, .inl (G 0, 10, .inl fc2)), (c3, .inl (G 0, 10, .inl fc3)), (c4, .inl (G 0, 6, .inl fc4)), (c5, .inl (G 0, 6, .inl fc5)), (c6, .inl (G 0, 6, .inl fc6))] := hD
  refine lv_aload_n hx hb dX9_copyOf_39 rfl (lv_at hl 1 rfl) ?_
  refine va_get (D := (dC, dI)) (ci := 9) (v := .ref c2) (C := RX9) (T := TX9) (N := 9) hx hb hg inG9 hown hK.1 hP 7 rfl rfl 4 (by decide) (hg _ wt_75) (fun _ h9 => h9) rfl dX9_copyOf_40 ?_
  refine lv_iconst (v := 0) hx hb dX9_copyOf_43 (by decide) ?_
  refine lv_aload_n hx hb dX9_copyOf_44 rfl (lv_at hl 0 rfl) ?_
  refine va_get (D := (dC, dI)) (ci := 9) (v := .ref a2) (C := RX9) (T := TX9) (N := 9) hx hb hg inG9 hown hK.1 hP 0 rfl rfl 4 (by decide) (hg _ wt_75) (fun _ h9 => h9) rfl dX9_copyOf_45 ?_
  refine lv_iconst (v := 0) hx hb dX9_copyOf_48 (by decide) ?_
  refine lv_bipush (v := 10) hx hb dX9_copyOf_49 (by decide) ?_
  refine va_copyi hx hb (by rw [hml]; exact hl.1.symm) hown (hg _ wt_511) (hg _ wt_513) (hg _ wt_512) (hg _ wt_18) hK.1 hP hD hS 9 2 0 0 rfl rfl rfl rfl rfl (by decide) (by decide) (by decide) (by decide) (by decide) (fun _ _ => rfl) (Nat.le_of_ble_eq_true rfl) (Nat.le_of_ble_eq_true rfl) dX9_copyOf_51 (fun H locs hP hD hS => ?_)
  have hP : va_P (dC, dI) vwCl [(h0, .inr (9, [.int n2, .int b2, .int d2, .ref a1, .ref a2, .ref a3, .ref a4, .ref a5, .ref a6])), (a1, .inl (G 0, 10, .inl (va_cpy fc1 fa1 0 0 10))), (a2, .inl (G 0, 10, .inl (va_cpy fc2 fa2 0 0 10))), (a3, .inl (G 0, 10, .inl fa3)), (a4, .inl (G 0, 6, .inl fa4)), (a5, .inl (G 0, 6, .inl fa5)), (a6, .inl (G 0, 6, .inl fa6)), (o0, .inr (9, [.int n2, .int b2, .int d2, .ref c1, .ref c2, .ref c3, .ref c4, .ref c5, .ref c6])), (c1, .inl (G 0, 10, .inl fc1)), (c2, .inl (G 0, 10, .inl fc2)), (c3, .inl (G 0, 10, .inl fc3)), (c4, .inl (G 0, 6, .inl fc4)), (c5, .inl (G 0, 6, .inl fc5)), (c6, .inl (G 0, 6, .inl fc6))] H := hP
  have hD : va_D A [(h0, .inr (9, [.int n2, .int b2, .int d2, .ref a1, .ref a2, .ref a3, .ref a4, .ref a5, .ref a6])), (a1, .inl (G 0, 10, .inl (va_cpy fc1 fa1 0 0 10))), (a2, .inl (G 0, 10, .inl (va_cpy fc2 fa2 0 0 10))), (a3, .inl (G 0, 10, .inl fa3)), (a4, .inl (G 0, 6, .inl fa4)), (a5, .inl (G 0, 6, .inl fa5)), (a6, .inl (G 0, 6, .inl fa6)), (o0, .inr (9, [.int n2, .int b2, .int d2, .ref c1, .ref c2, .ref c3, .ref c4, .ref c5, .ref c6])), (c1, .inl (G 0, 10, .inl fc1)), (c2, .inl (G 0, 10, .inl fc2)), (c3, .inl (G 0, 10, .inl fc3)), (c4, .inl (G 0, 6, .inl fc4)), (c5, .inl (G 0, 6, .inl fc5)), (c6, .inl (G 0, 6, .inl fc6))] := hD
  refine lv_aload_n hx hb dX9_copyOf_54 rfl (lv_at hl 1 rfl) ?_
  refine va_get (D := (dC, dI)) (ci := 9) (v := .ref c3) (C := RX9) (T := TX9) (N := 9) hx hb hg inG9 hown hK.1 hP 7 rfl rfl 5 (by decide) (hg _ wt_77) (fun _ h9 => h9) rfl dX9_copyOf_55 ?_
  refine lv_iconst (v := 0) hx hb dX9_copyOf_58 (by decide) ?_
  refine lv_aload_n hx hb dX9_copyOf_59 rfl (lv_at hl 0 rfl) ?_
  refine va_get (D := (dC, dI)) (ci := 9) (v := .ref a3) (C := RX9) (T := TX9) (N := 9) hx hb hg inG9 hown hK.1 hP 0 rfl rfl 5 (by decide) (hg _ wt_77) (fun _ h9 => h9) rfl dX9_copyOf_60 ?_
  refine lv_iconst (v := 0) hx hb dX9_copyOf_63 (by decide) ?_
  refine lv_bipush (v := 10) hx hb dX9_copyOf_64 (by decide) ?_
  refine va_copyi hx hb (by rw [hml]; exact hl.1.symm) hown (hg _ wt_511) (hg _ wt_513) (hg _ wt_512) (hg _ wt_18) hK.1 hP hD hS 10 3 0 0 rfl rfl rfl rfl rfl (by decide) (by decide) (by decide) (by decide) (by decide) (fun _ _ => rfl) (Nat.le_of_ble_eq_true rfl) (Nat.le_of_ble_eq_true rfl) dX9_copyOf_66 (fun H locs hP hD hS => ?_)
  have hP : va_P (dC, dI) vwCl [(h0, .inr (9, [.int n2, .int b2, .int d2, .ref a1, .ref a2, .ref a3, .ref a4, .ref a5, .ref a6])), (a1, .inl (G 0, 10, .inl (va_cpy fc1 fa1 0 0 10))), (a2, .inl (G 0, 10, .inl (va_cpy fc2 fa2 0 0 10))), (a3, .inl (G 0, 10, .inl (va_cpy fc3 fa3 0 0 10))), (a4, .inl (G 0, 6, .inl fa4)), (a5, .inl (G 0, 6, .inl fa5)), (a6, .inl (G 0, 6, .inl fa6)), (o0, .inr (9, [.int n2, .int b2, .int d2, .ref c1, .ref c2, .ref c3, .ref c4, .ref c5, .ref c6])), (c1, .inl (G 0, 10, .inl fc1)), (c2, .inl (G 0, 10, .inl fc2)), (c3, .inl (G 0, 10, .inl fc3)), (c4, .inl (G 0, 6, .inl fc4)), (c5, .inl (G 0, 6, .inl fc5)), (c6, .inl (G 0, 6, .inl fc6))] H := hP
  have hD : va_D A [(h0, .inr (9, [.int n2, .int b2, .int d2, .ref a1, .ref a2, .ref a3, .ref a4, .ref a5, .ref a6])), (a1, .inl (G 0, 10, .inl (va_cpy fc1 fa1 0 0 10))), (a2, .inl (G 0, 10, .inl (va_cpy fc2 fa2 0 0 10))), (a3, .inl (G 0, 10, .inl (va_cpy fc3 fa3 0 0 10))), (a4, .inl (G 0, 6, .inl fa4)), (a5, .inl (G 0, 6, .inl fa5)), (a6, .inl (G 0, 6, .inl fa6)), (o0, .inr (9, [.int n2, .int b2, .int d2, .ref c1, .ref c2, .ref c3, .ref c4, .ref c5, .ref c6])), (c1, .inl (G 0, 10, .inl fc1)), (c2, .inl (G 0, 10, .inl fc2)), (c3, .inl (G 0, 10, .inl fc3)), (c4, .inl (G 0, 6, .inl fc4)), (c5, .inl (G 0, 6, .inl fc5)), (c6, .inl (G 0, 6, .inl fc6))] := hD
  refine lv_aload_n hx hb dX9_copyOf_69 rfl (lv_at hl 1 rfl) ?_
  refine va_get (D := (dC, dI)) (ci := 9) (v := .ref c4) (C := RX9) (T := TX9) (N := 9) hx hb hg inG9 hown hK.1 hP 7 rfl rfl 6 (by decide) (hg _ wt_80) (fun _ h9 => h9) rfl dX9_copyOf_70 ?_
  refine lv_iconst (v := 0) hx hb dX9_copyOf_73 (by decide) ?_
  refine lv_aload_n hx hb dX9_copyOf_74 rfl (lv_at hl 0 rfl) ?_
  refine va_get (D := (dC, dI)) (ci := 9) (v := .ref a4) (C := RX9) (T := TX9) (N := 9) hx hb hg inG9 hown hK.1 hP 0 rfl rfl 6 (by decide) (hg _ wt_80) (fun _ h9 => h9) rfl dX9_copyOf_75 ?_
  refine lv_iconst (v := 0) hx hb dX9_copyOf_78 (by decide) ?_
  refine lv_bipush (v := 6) hx hb dX9_copyOf_79 (by decide) ?_
  refine va_copyi hx hb (by rw [hml]; exact hl.1.symm) hown (hg _ wt_511) (hg _ wt_513) (hg _ wt_512) (hg _ wt_18) hK.1 hP hD hS 11 4 0 0 rfl rfl rfl rfl rfl (by decide) (by decide) (by decide) (by decide) (by decide) (fun _ _ => rfl) (Nat.le_of_ble_eq_true rfl) (Nat.le_of_ble_eq_true rfl) dX9_copyOf_81 (fun H locs hP hD hS => ?_)
  have hP : va_P (dC, dI) vwCl [(h0, .inr (9, [.int n2, .int b2, .int d2, .ref a1, .ref a2, .ref a3, .ref a4, .ref a5, .ref a6])), (a1, .inl (G 0, 10, .inl (va_cpy fc1 fa1 0 0 10))), (a2, .inl (G 0, 10, .inl (va_cpy fc2 fa2 0 0 10))), (a3, .inl (G 0, 10, .inl (va_cpy fc3 fa3 0 0 10))), (a4, .inl (G 0, 6, .inl (va_cpy fc4 fa4 0 0 6))), (a5, .inl (G 0, 6, .inl fa5)), (a6, .inl (G 0, 6, .inl fa6)), (o0, .inr (9, [.int n2, .int b2, .int d2, .ref c1, .ref c2, .ref c3, .ref c4, .ref c5, .ref c6])), (c1, .inl (G 0, 10, .inl fc1)), (c2, .inl (G 0, 10, .inl fc2)), (c3, .inl (G 0, 10, .inl fc3)), (c4, .inl (G 0, 6, .inl fc4)), (c5, .inl (G 0, 6, .inl fc5)), (c6, .inl (G 0, 6, .inl fc6))] H := hP
  have hD : va_D A [(h0, .inr (9, [.int n2, .int b2, .int d2, .ref a1, .ref a2, .ref a3, .ref a4, .ref a5, .ref a6])), (a1, .inl (G 0, 10, .inl (va_cpy fc1 fa1 0 0 10))), (a2, .inl (G 0, 10, .inl (va_cpy fc2 fa2 0 0 10))), (a3, .inl (G 0, 10, .inl (va_cpy fc3 fa3 0 0 10))), (a4, .inl (G 0, 6, .inl (va_cpy fc4 fa4 0 0 6))), (a5, .inl (G 0, 6, .inl fa5)), (a6, .inl (G 0, 6, .inl fa6)), (o0, .inr (9, [.int n2, .int b2, .int d2, .ref c1, .ref c2, .ref c3, .ref c4, .ref c5, .ref c6])), (c1, .inl (G 0, 10, .inl fc1)), (c2, .inl (G 0, 10, .inl fc2)), (c3, .inl (G 0, 10, .inl fc3)), (c4, .inl (G 0, 6, .inl fc4)), (c5, .inl (G 0, 6, .inl fc5)), (c6, .inl (G 0, 6, .inl fc6))] := hD
  refine lv_aload_n hx hb dX9_copyOf_84 rfl (lv_at hl 1 rfl) ?_
  refine va_get (D := (dC, dI)) (ci := 9) (v := .ref c5) (C := RX9) (T := TX9) (N := 9) hx hb hg inG9 hown hK.1 hP 7 rfl rfl 7 (by decide) (hg _ wt_82) (fun _ h9 => h9) rfl dX9_copyOf_85 ?_
  refine lv_iconst (v := 0) hx hb dX9_copyOf_88 (by decide) ?_
  refine lv_aload_n hx hb dX9_copyOf_89 rfl (lv_at hl 0 rfl) ?_
  refine va_get (D := (dC, dI)) (ci := 9) (v := .ref a5) (C := RX9) (T := TX9) (N := 9) hx hb hg inG9 hown hK.1 hP 0 rfl rfl 7 (by decide) (hg _ wt_82) (fun _ h9 => h9) rfl dX9_copyOf_90 ?_
  refine lv_iconst (v := 0) hx hb dX9_copyOf_93 (by decide) ?_
  refine lv_bipush (v := 6) hx hb dX9_copyOf_94 (by decide) ?_
  refine va_copyi hx hb (by rw [hml]; exact hl.1.symm) hown (hg _ wt_511) (hg _ wt_513) (hg _ wt_512) (hg _ wt_18) hK.1 hP hD hS 12 5 0 0 rfl rfl rfl rfl rfl (by decide) (by decide) (by decide) (by decide) (by decide) (fun _ _ => rfl) (Nat.le_of_ble_eq_true rfl) (Nat.le_of_ble_eq_true rfl) dX9_copyOf_96 (fun H locs hP hD hS => ?_)
  have hP : va_P (dC, dI) vwCl [(h0, .inr (9, [.int n2, .int b2, .int d2, .ref a1, .ref a2, .ref a3, .ref a4, .ref a5, .ref a6])), (a1, .inl (G 0, 10, .inl (va_cpy fc1 fa1 0 0 10))), (a2, .inl (G 0, 10, .inl (va_cpy fc2 fa2 0 0 10))), (a3, .inl (G 0, 10, .inl (va_cpy fc3 fa3 0 0 10))), (a4, .inl (G 0, 6, .inl (va_cpy fc4 fa4 0 0 6))), (a5, .inl (G 0, 6, .inl (va_cpy fc5 fa5 0 0 6))), (a6, .inl (G 0, 6, .inl fa6)), (o0, .inr (9, [.int n2, .int b2, .int d2, .ref c1, .ref c2, .ref c3, .ref c4, .ref c5, .ref c6])), (c1, .inl (G 0, 10, .inl fc1)), (c2, .inl (G 0, 10, .inl fc2)), (c3, .inl (G 0, 10, .inl fc3)), (c4, .inl (G 0, 6, .inl fc4)), (c5, .inl (G 0, 6, .inl fc5)), (c6, .inl (G 0, 6, .inl fc6))] H := hP
  have hD : va_D A [(h0, .inr (9, [.int n2, .int b2, .int d2, .ref a1, .ref a2, .ref a3, .ref a4, .ref a5, .ref a6])), (a1, .inl (G 0, 10, .inl (va_cpy fc1 fa1 0 0 10))), (a2, .inl (G 0, 10, .inl (va_cpy fc2 fa2 0 0 10))), (a3, .inl (G 0, 10, .inl (va_cpy fc3 fa3 0 0 10))), (a4, .inl (G 0, 6, .inl (va_cpy fc4 fa4 0 0 6))), (a5, .inl (G 0, 6, .inl (va_cpy fc5 fa5 0 0 6))), (a6, .inl (G 0, 6, .inl fa6)), (o0, .inr (9, [.int n2, .int b2, .int d2, .ref c1, .ref c2, .ref c3, .ref c4, .ref c5, .ref c6])), (c1, .inl (G 0, 10, .inl fc1)), (c2, .inl (G 0, 10, .inl fc2)), (c3, .inl (G 0, 10, .inl fc3)), (c4, .inl (G 0, 6, .inl fc4)), (c5, .inl (G 0, 6, .inl fc5)), (c6, .inl (G 0, 6, .inl fc6))] := hD
  refine lv_aload_n hx hb dX9_copyOf_99 rfl (lv_at hl 1 rfl) ?_
  refine va_get (D := (dC, dI)) (ci := 9) (v := .ref c6) (C := RX9) (T := TX9) (N := 9) hx hb hg inG9 hown hK.1 hP 7 rfl rfl 8 (by decide) (hg _ wt_84) (fun _ h9 => h9) rfl dX9_copyOf_100 ?_
  refine lv_iconst (v := 0) hx hb dX9_copyOf_103 (by decide) ?_
  refine lv_aload_n hx hb dX9_copyOf_104 rfl (lv_at hl 0 rfl) ?_
  refine va_get (D := (dC, dI)) (ci := 9) (v := .ref a6) (C := RX9) (T := TX9) (N := 9) hx hb hg inG9 hown hK.1 hP 0 rfl rfl 8 (by decide) (hg _ wt_84) (fun _ h9 => h9) rfl dX9_copyOf_105 ?_
  refine lv_iconst (v := 0) hx hb dX9_copyOf_108 (by decide) ?_
  refine lv_bipush (v := 6) hx hb dX9_copyOf_109 (by decide) ?_
  refine va_copyi hx hb (by rw [hml]; exact hl.1.symm) hown (hg _ wt_511) (hg _ wt_513) (hg _ wt_512) (hg _ wt_18) hK.1 hP hD hS 13 6 0 0 rfl rfl rfl rfl rfl (by decide) (by decide) (by decide) (by decide) (by decide) (fun _ _ => rfl) (Nat.le_of_ble_eq_true rfl) (Nat.le_of_ble_eq_true rfl) dX9_copyOf_111 (fun H locs hP hD hS => ?_)
  have hP : va_P (dC, dI) vwCl [(h0, .inr (9, [.int n2, .int b2, .int d2, .ref a1, .ref a2, .ref a3, .ref a4, .ref a5, .ref a6])), (a1, .inl (G 0, 10, .inl (va_cpy fc1 fa1 0 0 10))), (a2, .inl (G 0, 10, .inl (va_cpy fc2 fa2 0 0 10))), (a3, .inl (G 0, 10, .inl (va_cpy fc3 fa3 0 0 10))), (a4, .inl (G 0, 6, .inl (va_cpy fc4 fa4 0 0 6))), (a5, .inl (G 0, 6, .inl (va_cpy fc5 fa5 0 0 6))), (a6, .inl (G 0, 6, .inl (va_cpy fc6 fa6 0 0 6))), (o0, .inr (9, [.int n2, .int b2, .int d2, .ref c1, .ref c2, .ref c3, .ref c4, .ref c5, .ref c6])), (c1, .inl (G 0, 10, .inl fc1)), (c2, .inl (G 0, 10, .inl fc2)), (c3, .inl (G 0, 10, .inl fc3)), (c4, .inl (G 0, 6, .inl fc4)), (c5, .inl (G 0, 6, .inl fc5)), (c6, .inl (G 0, 6, .inl fc6))] H := hP
  have hD : va_D A [(h0, .inr (9, [.int n2, .int b2, .int d2, .ref a1, .ref a2, .ref a3, .ref a4, .ref a5, .ref a6])), (a1, .inl (G 0, 10, .inl (va_cpy fc1 fa1 0 0 10))), (a2, .inl (G 0, 10, .inl (va_cpy fc2 fa2 0 0 10))), (a3, .inl (G 0, 10, .inl (va_cpy fc3 fa3 0 0 10))), (a4, .inl (G 0, 6, .inl (va_cpy fc4 fa4 0 0 6))), (a5, .inl (G 0, 6, .inl (va_cpy fc5 fa5 0 0 6))), (a6, .inl (G 0, 6, .inl (va_cpy fc6 fa6 0 0 6))), (o0, .inr (9, [.int n2, .int b2, .int d2, .ref c1, .ref c2, .ref c3, .ref c4, .ref c5, .ref c6])), (c1, .inl (G 0, 10, .inl fc1)), (c2, .inl (G 0, 10, .inl fc2)), (c3, .inl (G 0, 10, .inl fc3)), (c4, .inl (G 0, 6, .inl fc4)), (c5, .inl (G 0, 6, .inl fc5)), (c6, .inl (G 0, 6, .inl fc6))] := hD
  have hP9 := hP.sub (ws' := [(o0, .inr (9, [.int n2, .int b2, .int d2, .ref c1, .ref c2, .ref c3, .ref c4, .ref c5, .ref c6]))]) [7] rfl
  have hD9 := hD.sub (ws' := [(o0, .inr (9, [.int n2, .int b2, .int d2, .ref c1, .ref c2, .ref c3, .ref c4, .ref c5, .ref c6]))]) [7] (by decide) rfl
  refine W.widen (k := 0) (n := 0) (by omega) (by omega) ?_
  exact W.vret hx hb hr (fun t ht hW => ⟨⟨(), rfl, trivial, ⟨by rw [ht]; exact hP9, hD9⟩⟩, hS.F ht⟩) hS.2.2 dX9_copyOf_114

set_option maxHeartbeats 4000000 in
set_option maxRecDepth 100000 in
theorem c_X9_clear (l : Launch) (dC : Nat → ClassId) (dI : Nat → Nat → Nat) (G : Nat → ClassId) (sz : Nat) (h0 a1 a2 a3 a4 a5 a6 : Nat) (n b d : Int32) (f : Nat → Int32)  : Met l yX9_clear (Cond.code yX9_clear cX9_clear 2 none :: GT) ({ frames := 0, cells := 0, slots := 0, locals := 0 } : Room) (PcW [.ref h0] dC dI G [(h0, .inr (9, [.int n, .int b, .int d, .ref a1, .ref a2, .ref a3, .ref a4, .ref a5, .ref a6])), (a3, .inl (G 0, 10, .inl f))] sz) (va_Qv (fun (u : Nat → Int32) => match u with | u => True) (fun (u : Nat → Int32) (t : State) => match u with | u => va_P (dC, dI) vwCl [(h0, .inr (9, [.int 0, .int 0, .int 5, .ref a1, .ref a2, .ref a3, .ref a4, .ref a5, .ref a6])), (a3, .inl (G 0, 10, .inl u))] t.heap ∧ va_D (va_A [(h0, .inr (9, [.int n, .int b, .int d, .ref a1, .ref a2, .ref a3, .ref a4, .ref a5, .ref a6])), (a3, .inl (G 0, 10, .inl f))] sz) [(h0, .inr (9, [.int 0, .int 0, .int 5, .ref a1, .ref a2, .ref a3, .ref a4, .ref a5, .ref a6])), (a3, .inl (G 0, 10, .inl u))]) (va_A [(h0, .inr (9, [.int n, .int b, .int d, .ref a1, .ref a2, .ref a3, .ref a4, .ref a5, .ref a6])), (a3, .inl (G 0, 10, .inl f))] sz)) 0 0 (va_A [(h0, .inr (9, [.int n, .int b, .int d, .ref a1, .ref a2, .ref a3, .ref a4, .ref a5, .ref a6])), (a3, .inl (G 0, 10, .inl f))] sz) := by
  refine Met.ofW (cc := cX9_clear) (maxL := 2) (ret := none) (by decide) rfl ?_
  intro p e s m args below meth c s₁ B hml hv
  obtain ⟨rfl, hsz, hP, hK, hD0⟩ := hv
  have hx := B.exec
  have hb := B.bytes
  have hr := B.returns
  have hg : ∀ w ∈ GT, w.before ([.ref h0] : List Value).toArray s = true := fun w h => atoms_spec (ws := Cond.code yX9_clear cX9_clear 2 none :: GT) B.pre w (List.mem_cons_of_mem _ h)
  have hown : s.vm.findClass RX9 = some m.cls := findClass_of_methodNamed B.named
  have hlocks := B.notSynchronized
  subst hsz
  have hD := hD0.self (sz := s.heap.size)
  generalize hAe : va_A [(h0, .inr (9, [.int n, .int b, .int d, .ref a1, .ref a2, .ref a3, .ref a4, .ref a5, .ref a6])), (a3, .inl (G 0, 10, .inl f))] s.heap.size = A at hD ⊢
  have hA : ∀ q : Nat, s.heap.size ≤ q → A q := fun q h => by rw [← hAe]; exact Or.inr h
  have hS : va_S A s.heap s.heap [] := va_S.rf
  have hl := lv_entry ([.ref h0]) (n := 2) (Nat.le_of_ble_eq_true rfl)
  rw [lg_entry_eq]
  generalize (lg_sl ([.ref h0]) ++ List.replicate (2 - (lg_sl ([.ref h0])).length) Slot.unset).toArray = ls at hl ⊢
  have hl : lv_has ls 2 [(0, .ref h0)] := hl
  refine lv_aload_n hx hb dX9_clear_0 rfl (lv_at hl 0 rfl) ?_
  refine lv_iconst (v := 0) hx hb dX9_clear_1 (by decide) ?_
  refine va_put (D := (dC, dI)) (ci := 9) (v := .int 0) (ty := .int) (C := RX9) (T := TX9) (N := 9) hx hb hg inG9 tyX9 tyX9_ok nmX9 hown hK.1 hP hD hS 0 rfl rfl 0 (by decide) (hg _ wt_56) (fun _ h9 => h9) rfl (by decide +kernel) rfl rfl (Nat.le_of_ble_eq_true rfl) dX9_clear_2 (fun H locs hP hD hS => ?_)
  have hP : va_P (dC, dI) vwCl [(h0, .inr (9, [.int 0, .int b, .int d, .ref a1, .ref a2, .ref a3, .ref a4, .ref a5, .ref a6])), (a3, .inl (G 0, 10, .inl f))] H := hP
  have hD : va_D A [(h0, .inr (9, [.int 0, .int b, .int d, .ref a1, .ref a2, .ref a3, .ref a4, .ref a5, .ref a6])), (a3, .inl (G 0, 10, .inl f))] := hD
  refine lv_aload_n hx hb dX9_clear_5 rfl (lv_at hl 0 rfl) ?_
  refine lv_iconst (v := 0) hx hb dX9_clear_6 (by decide) ?_
  refine va_put (D := (dC, dI)) (ci := 9) (v := .int 0) (ty := .int) (C := RX9) (T := TX9) (N := 9) hx hb hg inG9 tyX9 tyX9_ok nmX9 hown hK.1 hP hD hS 0 rfl rfl 1 (by decide) (hg _ wt_62) (fun _ h9 => h9) rfl (by decide +kernel) rfl rfl (Nat.le_of_ble_eq_true rfl) dX9_clear_7 (fun H locs hP hD hS => ?_)
  have hP : va_P (dC, dI) vwCl [(h0, .inr (9, [.int 0, .int 0, .int d, .ref a1, .ref a2, .ref a3, .ref a4, .ref a5, .ref a6])), (a3, .inl (G 0, 10, .inl f))] H := hP
  have hD : va_D A [(h0, .inr (9, [.int 0, .int 0, .int d, .ref a1, .ref a2, .ref a3, .ref a4, .ref a5, .ref a6])), (a3, .inl (G 0, 10, .inl f))] := hD
  refine lv_aload_n hx hb dX9_clear_10 rfl (lv_at hl 0 rfl) ?_
  refine lv_iconst (v := 5) hx hb dX9_clear_11 (by decide) ?_
  refine va_put (D := (dC, dI)) (ci := 9) (v := .int 5) (ty := .int) (C := RX9) (T := TX9) (N := 9) hx hb hg inG9 tyX9 tyX9_ok nmX9 hown hK.1 hP hD hS 0 rfl rfl 2 (by decide) (hg _ wt_66) (fun _ h9 => h9) rfl (by decide +kernel) rfl rfl (Nat.le_of_ble_eq_true rfl) dX9_clear_12 (fun H locs hP hD hS => ?_)
  have hP : va_P (dC, dI) vwCl [(h0, .inr (9, [.int 0, .int 0, .int 5, .ref a1, .ref a2, .ref a3, .ref a4, .ref a5, .ref a6])), (a3, .inl (G 0, 10, .inl f))] H := hP
  have hD : va_D A [(h0, .inr (9, [.int 0, .int 0, .int 5, .ref a1, .ref a2, .ref a3, .ref a4, .ref a5, .ref a6])), (a3, .inl (G 0, 10, .inl f))] := hD
  refine lv_iconst (v := 0) hx hb dX9_clear_15 (by decide) ?_
  refine lv_istore_n (lv' := [(1, .int 0), (0, .ref h0)]) hx hb dX9_clear_16 rfl hl (by decide) rfl (fun ls hl => ?_)
  refine lv_iload_n hx hb dX9_clear_17 rfl (lv_at hl 0 rfl) ?_
  refine lv_bipush (v := 10) hx hb dX9_clear_18 (by decide) ?_
  refine lv_icmp_ge (tgt := 36) hx hb dX9_clear_20 (by decide) (fun c1 => ?_) (fun c1 => ?_)
  · skip
    exact absurd c1 (by decide)
  · skip
    refine lv_aload_n hx hb dX9_clear_23 rfl (lv_at hl 1 rfl) ?_
    refine va_get (D := (dC, dI)) (ci := 9) (v := .ref a3) (C := RX9) (T := TX9) (N := 9) hx hb hg inG9 hown hK.1 hP 0 rfl rfl 5 (by decide) (hg _ wt_77) (fun _ h9 => h9) rfl dX9_clear_24 ?_
    refine lv_iload_n hx hb dX9_clear_27 rfl (lv_at hl 0 rfl) ?_
    refine lv_iconst (v := 0) hx hb dX9_clear_28 (by decide) ?_
    refine va_iast hx hb hK.1 hP hD hS 1 0 rfl rfl (vp_in_iff.mpr ⟨by decide, by decide⟩) dX9_clear_29 (fun H locs hP hD hS => ?_)
    have hP : va_P (dC, dI) vwCl [(h0, .inr (9, [.int 0, .int 0, .int 5, .ref a1, .ref a2, .ref a3, .ref a4, .ref a5, .ref a6])), (a3, .inl (G 0, 10, .inl (upd f 0 0)))] H := hP
    have hD : va_D A [(h0, .inr (9, [.int 0, .int 0, .int 5, .ref a1, .ref a2, .ref a3, .ref a4, .ref a5, .ref a6])), (a3, .inl (G 0, 10, .inl (upd f 0 0)))] := hD
    refine lv_iinc (v := 1) (lv' := [(1, .int 1), (0, .ref h0)]) hx hb dX9_clear_30 hl (k := 0) rfl (by decide) (by decide) rfl (fun ls hl => ?_)
    refine lv_goto (tgt := 17) hx hb dX9_clear_33 (by decide) ?_
    refine lv_iload_n hx hb dX9_clear_17 rfl (lv_at hl 0 rfl) ?_
    refine lv_bipush (v := 10) hx hb dX9_clear_18 (by decide) ?_
    refine lv_icmp_ge (tgt := 36) hx hb dX9_clear_20 (by decide) (fun c2 => ?_) (fun c2 => ?_)
    · skip
      exact absurd c2 (by decide)
    · skip
      refine lv_aload_n hx hb dX9_clear_23 rfl (lv_at hl 1 rfl) ?_
      refine va_get (D := (dC, dI)) (ci := 9) (v := .ref a3) (C := RX9) (T := TX9) (N := 9) hx hb hg inG9 hown hK.1 hP 0 rfl rfl 5 (by decide) (hg _ wt_77) (fun _ h9 => h9) rfl dX9_clear_24 ?_
      refine lv_iload_n hx hb dX9_clear_27 rfl (lv_at hl 0 rfl) ?_
      refine lv_iconst (v := 0) hx hb dX9_clear_28 (by decide) ?_
      refine va_iast hx hb hK.1 hP hD hS 1 0 rfl rfl (vp_in_iff.mpr ⟨by decide, by decide⟩) dX9_clear_29 (fun H locs hP hD hS => ?_)
      have hP : va_P (dC, dI) vwCl [(h0, .inr (9, [.int 0, .int 0, .int 5, .ref a1, .ref a2, .ref a3, .ref a4, .ref a5, .ref a6])), (a3, .inl (G 0, 10, .inl (upd (upd f 0 0) 1 0)))] H := hP
      have hD : va_D A [(h0, .inr (9, [.int 0, .int 0, .int 5, .ref a1, .ref a2, .ref a3, .ref a4, .ref a5, .ref a6])), (a3, .inl (G 0, 10, .inl (upd (upd f 0 0) 1 0)))] := hD
      refine lv_iinc (v := 2) (lv' := [(1, .int 2), (0, .ref h0)]) hx hb dX9_clear_30 hl (k := 0) rfl (by decide) (by decide) rfl (fun ls hl => ?_)
      refine lv_goto (tgt := 17) hx hb dX9_clear_33 (by decide) ?_
      refine lv_iload_n hx hb dX9_clear_17 rfl (lv_at hl 0 rfl) ?_
      refine lv_bipush (v := 10) hx hb dX9_clear_18 (by decide) ?_
      refine lv_icmp_ge (tgt := 36) hx hb dX9_clear_20 (by decide) (fun c3 => ?_) (fun c3 => ?_)
      · skip
        exact absurd c3 (by decide)
      · skip
        refine lv_aload_n hx hb dX9_clear_23 rfl (lv_at hl 1 rfl) ?_
        refine va_get (D := (dC, dI)) (ci := 9) (v := .ref a3) (C := RX9) (T := TX9) (N := 9) hx hb hg inG9 hown hK.1 hP 0 rfl rfl 5 (by decide) (hg _ wt_77) (fun _ h9 => h9) rfl dX9_clear_24 ?_
        refine lv_iload_n hx hb dX9_clear_27 rfl (lv_at hl 0 rfl) ?_
        refine lv_iconst (v := 0) hx hb dX9_clear_28 (by decide) ?_
        refine va_iast hx hb hK.1 hP hD hS 1 0 rfl rfl (vp_in_iff.mpr ⟨by decide, by decide⟩) dX9_clear_29 (fun H locs hP hD hS => ?_)
        have hP : va_P (dC, dI) vwCl [(h0, .inr (9, [.int 0, .int 0, .int 5, .ref a1, .ref a2, .ref a3, .ref a4, .ref a5, .ref a6])), (a3, .inl (G 0, 10, .inl (upd (upd (upd f 0 0) 1 0) 2 0)))] H := hP
        have hD : va_D A [(h0, .inr (9, [.int 0, .int 0, .int 5, .ref a1, .ref a2, .ref a3, .ref a4, .ref a5, .ref a6])), (a3, .inl (G 0, 10, .inl (upd (upd (upd f 0 0) 1 0) 2 0)))] := hD
        refine lv_iinc (v := 3) (lv' := [(1, .int 3), (0, .ref h0)]) hx hb dX9_clear_30 hl (k := 0) rfl (by decide) (by decide) rfl (fun ls hl => ?_)
        refine lv_goto (tgt := 17) hx hb dX9_clear_33 (by decide) ?_
        refine lv_iload_n hx hb dX9_clear_17 rfl (lv_at hl 0 rfl) ?_
        refine lv_bipush (v := 10) hx hb dX9_clear_18 (by decide) ?_
        refine lv_icmp_ge (tgt := 36) hx hb dX9_clear_20 (by decide) (fun c4 => ?_) (fun c4 => ?_)
        · skip
          exact absurd c4 (by decide)
        · skip
          refine lv_aload_n hx hb dX9_clear_23 rfl (lv_at hl 1 rfl) ?_
          refine va_get (D := (dC, dI)) (ci := 9) (v := .ref a3) (C := RX9) (T := TX9) (N := 9) hx hb hg inG9 hown hK.1 hP 0 rfl rfl 5 (by decide) (hg _ wt_77) (fun _ h9 => h9) rfl dX9_clear_24 ?_
          refine lv_iload_n hx hb dX9_clear_27 rfl (lv_at hl 0 rfl) ?_
          refine lv_iconst (v := 0) hx hb dX9_clear_28 (by decide) ?_
          refine va_iast hx hb hK.1 hP hD hS 1 0 rfl rfl (vp_in_iff.mpr ⟨by decide, by decide⟩) dX9_clear_29 (fun H locs hP hD hS => ?_)
          have hP : va_P (dC, dI) vwCl [(h0, .inr (9, [.int 0, .int 0, .int 5, .ref a1, .ref a2, .ref a3, .ref a4, .ref a5, .ref a6])), (a3, .inl (G 0, 10, .inl (upd (upd (upd (upd f 0 0) 1 0) 2 0) 3 0)))] H := hP
          have hD : va_D A [(h0, .inr (9, [.int 0, .int 0, .int 5, .ref a1, .ref a2, .ref a3, .ref a4, .ref a5, .ref a6])), (a3, .inl (G 0, 10, .inl (upd (upd (upd (upd f 0 0) 1 0) 2 0) 3 0)))] := hD
          refine lv_iinc (v := 4) (lv' := [(1, .int 4), (0, .ref h0)]) hx hb dX9_clear_30 hl (k := 0) rfl (by decide) (by decide) rfl (fun ls hl => ?_)
          refine lv_goto (tgt := 17) hx hb dX9_clear_33 (by decide) ?_
          refine lv_iload_n hx hb dX9_clear_17 rfl (lv_at hl 0 rfl) ?_
          refine lv_bipush (v := 10) hx hb dX9_clear_18 (by decide) ?_
          refine lv_icmp_ge (tgt := 36) hx hb dX9_clear_20 (by decide) (fun c5 => ?_) (fun c5 => ?_)
          · skip
            exact absurd c5 (by decide)
          · skip
            refine lv_aload_n hx hb dX9_clear_23 rfl (lv_at hl 1 rfl) ?_
            refine va_get (D := (dC, dI)) (ci := 9) (v := .ref a3) (C := RX9) (T := TX9) (N := 9) hx hb hg inG9 hown hK.1 hP 0 rfl rfl 5 (by decide) (hg _ wt_77) (fun _ h9 => h9) rfl dX9_clear_24 ?_
            refine lv_iload_n hx hb dX9_clear_27 rfl (lv_at hl 0 rfl) ?_
            refine lv_iconst (v := 0) hx hb dX9_clear_28 (by decide) ?_
            refine va_iast hx hb hK.1 hP hD hS 1 0 rfl rfl (vp_in_iff.mpr ⟨by decide, by decide⟩) dX9_clear_29 (fun H locs hP hD hS => ?_)
            have hP : va_P (dC, dI) vwCl [(h0, .inr (9, [.int 0, .int 0, .int 5, .ref a1, .ref a2, .ref a3, .ref a4, .ref a5, .ref a6])), (a3, .inl (G 0, 10, .inl (upd (upd (upd (upd (upd f 0 0) 1 0) 2 0) 3 0) 4 0)))] H := hP
            have hD : va_D A [(h0, .inr (9, [.int 0, .int 0, .int 5, .ref a1, .ref a2, .ref a3, .ref a4, .ref a5, .ref a6])), (a3, .inl (G 0, 10, .inl (upd (upd (upd (upd (upd f 0 0) 1 0) 2 0) 3 0) 4 0)))] := hD
            refine lv_iinc (v := 5) (lv' := [(1, .int 5), (0, .ref h0)]) hx hb dX9_clear_30 hl (k := 0) rfl (by decide) (by decide) rfl (fun ls hl => ?_)
            refine lv_goto (tgt := 17) hx hb dX9_clear_33 (by decide) ?_
            refine lv_iload_n hx hb dX9_clear_17 rfl (lv_at hl 0 rfl) ?_
            refine lv_bipush (v := 10) hx hb dX9_clear_18 (by decide) ?_
            refine lv_icmp_ge (tgt := 36) hx hb dX9_clear_20 (by decide) (fun c6 => ?_) (fun c6 => ?_)
            · skip
              exact absurd c6 (by decide)
            · skip
              refine lv_aload_n hx hb dX9_clear_23 rfl (lv_at hl 1 rfl) ?_
              refine va_get (D := (dC, dI)) (ci := 9) (v := .ref a3) (C := RX9) (T := TX9) (N := 9) hx hb hg inG9 hown hK.1 hP 0 rfl rfl 5 (by decide) (hg _ wt_77) (fun _ h9 => h9) rfl dX9_clear_24 ?_
              refine lv_iload_n hx hb dX9_clear_27 rfl (lv_at hl 0 rfl) ?_
              refine lv_iconst (v := 0) hx hb dX9_clear_28 (by decide) ?_
              refine va_iast hx hb hK.1 hP hD hS 1 0 rfl rfl (vp_in_iff.mpr ⟨by decide, by decide⟩) dX9_clear_29 (fun H locs hP hD hS => ?_)
              have hP : va_P (dC, dI) vwCl [(h0, .inr (9, [.int 0, .int 0, .int 5, .ref a1, .ref a2, .ref a3, .ref a4, .ref a5, .ref a6])), (a3, .inl (G 0, 10, .inl (upd (upd (upd (upd (upd (upd f 0 0) 1 0) 2 0) 3 0) 4 0) 5 0)))] H := hP
              have hD : va_D A [(h0, .inr (9, [.int 0, .int 0, .int 5, .ref a1, .ref a2, .ref a3, .ref a4, .ref a5, .ref a6])), (a3, .inl (G 0, 10, .inl (upd (upd (upd (upd (upd (upd f 0 0) 1 0) 2 0) 3 0) 4 0) 5 0)))] := hD
              refine lv_iinc (v := 6) (lv' := [(1, .int 6), (0, .ref h0)]) hx hb dX9_clear_30 hl (k := 0) rfl (by decide) (by decide) rfl (fun ls hl => ?_)
              refine lv_goto (tgt := 17) hx hb dX9_clear_33 (by decide) ?_
              refine lv_iload_n hx hb dX9_clear_17 rfl (lv_at hl 0 rfl) ?_
              refine lv_bipush (v := 10) hx hb dX9_clear_18 (by decide) ?_
              refine lv_icmp_ge (tgt := 36) hx hb dX9_clear_20 (by decide) (fun c7 => ?_) (fun c7 => ?_)
              · skip
                exact absurd c7 (by decide)
              · skip
                refine lv_aload_n hx hb dX9_clear_23 rfl (lv_at hl 1 rfl) ?_
                refine va_get (D := (dC, dI)) (ci := 9) (v := .ref a3) (C := RX9) (T := TX9) (N := 9) hx hb hg inG9 hown hK.1 hP 0 rfl rfl 5 (by decide) (hg _ wt_77) (fun _ h9 => h9) rfl dX9_clear_24 ?_
                refine lv_iload_n hx hb dX9_clear_27 rfl (lv_at hl 0 rfl) ?_
                refine lv_iconst (v := 0) hx hb dX9_clear_28 (by decide) ?_
                refine va_iast hx hb hK.1 hP hD hS 1 0 rfl rfl (vp_in_iff.mpr ⟨by decide, by decide⟩) dX9_clear_29 (fun H locs hP hD hS => ?_)
                have hP : va_P (dC, dI) vwCl [(h0, .inr (9, [.int 0, .int 0, .int 5, .ref a1, .ref a2, .ref a3, .ref a4, .ref a5, .ref a6])), (a3, .inl (G 0, 10, .inl (upd (upd (upd (upd (upd (upd (upd f 0 0) 1 0) 2 0) 3 0) 4 0) 5 0) 6 0)))] H := hP
                have hD : va_D A [(h0, .inr (9, [.int 0, .int 0, .int 5, .ref a1, .ref a2, .ref a3, .ref a4, .ref a5, .ref a6])), (a3, .inl (G 0, 10, .inl (upd (upd (upd (upd (upd (upd (upd f 0 0) 1 0) 2 0) 3 0) 4 0) 5 0) 6 0)))] := hD
                refine lv_iinc (v := 7) (lv' := [(1, .int 7), (0, .ref h0)]) hx hb dX9_clear_30 hl (k := 0) rfl (by decide) (by decide) rfl (fun ls hl => ?_)
                refine lv_goto (tgt := 17) hx hb dX9_clear_33 (by decide) ?_
                refine lv_iload_n hx hb dX9_clear_17 rfl (lv_at hl 0 rfl) ?_
                refine lv_bipush (v := 10) hx hb dX9_clear_18 (by decide) ?_
                refine lv_icmp_ge (tgt := 36) hx hb dX9_clear_20 (by decide) (fun c8 => ?_) (fun c8 => ?_)
                · skip
                  exact absurd c8 (by decide)
                · skip
                  refine lv_aload_n hx hb dX9_clear_23 rfl (lv_at hl 1 rfl) ?_
                  refine va_get (D := (dC, dI)) (ci := 9) (v := .ref a3) (C := RX9) (T := TX9) (N := 9) hx hb hg inG9 hown hK.1 hP 0 rfl rfl 5 (by decide) (hg _ wt_77) (fun _ h9 => h9) rfl dX9_clear_24 ?_
                  refine lv_iload_n hx hb dX9_clear_27 rfl (lv_at hl 0 rfl) ?_
                  refine lv_iconst (v := 0) hx hb dX9_clear_28 (by decide) ?_
                  refine va_iast hx hb hK.1 hP hD hS 1 0 rfl rfl (vp_in_iff.mpr ⟨by decide, by decide⟩) dX9_clear_29 (fun H locs hP hD hS => ?_)
                  have hP : va_P (dC, dI) vwCl [(h0, .inr (9, [.int 0, .int 0, .int 5, .ref a1, .ref a2, .ref a3, .ref a4, .ref a5, .ref a6])), (a3, .inl (G 0, 10, .inl (upd (upd (upd (upd (upd (upd (upd (upd f 0 0) 1 0) 2 0) 3 0) 4 0) 5 0) 6 0) 7 0)))] H := hP
                  have hD : va_D A [(h0, .inr (9, [.int 0, .int 0, .int 5, .ref a1, .ref a2, .ref a3, .ref a4, .ref a5, .ref a6])), (a3, .inl (G 0, 10, .inl (upd (upd (upd (upd (upd (upd (upd (upd f 0 0) 1 0) 2 0) 3 0) 4 0) 5 0) 6 0) 7 0)))] := hD
                  refine lv_iinc (v := 8) (lv' := [(1, .int 8), (0, .ref h0)]) hx hb dX9_clear_30 hl (k := 0) rfl (by decide) (by decide) rfl (fun ls hl => ?_)
                  refine lv_goto (tgt := 17) hx hb dX9_clear_33 (by decide) ?_
                  refine lv_iload_n hx hb dX9_clear_17 rfl (lv_at hl 0 rfl) ?_
                  refine lv_bipush (v := 10) hx hb dX9_clear_18 (by decide) ?_
                  refine lv_icmp_ge (tgt := 36) hx hb dX9_clear_20 (by decide) (fun c9 => ?_) (fun c9 => ?_)
                  · skip
                    exact absurd c9 (by decide)
                  · skip
                    refine lv_aload_n hx hb dX9_clear_23 rfl (lv_at hl 1 rfl) ?_
                    refine va_get (D := (dC, dI)) (ci := 9) (v := .ref a3) (C := RX9) (T := TX9) (N := 9) hx hb hg inG9 hown hK.1 hP 0 rfl rfl 5 (by decide) (hg _ wt_77) (fun _ h9 => h9) rfl dX9_clear_24 ?_
                    refine lv_iload_n hx hb dX9_clear_27 rfl (lv_at hl 0 rfl) ?_
                    refine lv_iconst (v := 0) hx hb dX9_clear_28 (by decide) ?_
                    refine va_iast hx hb hK.1 hP hD hS 1 0 rfl rfl (vp_in_iff.mpr ⟨by decide, by decide⟩) dX9_clear_29 (fun H locs hP hD hS => ?_)
                    have hP : va_P (dC, dI) vwCl [(h0, .inr (9, [.int 0, .int 0, .int 5, .ref a1, .ref a2, .ref a3, .ref a4, .ref a5, .ref a6])), (a3, .inl (G 0, 10, .inl (upd (upd (upd (upd (upd (upd (upd (upd (upd f 0 0) 1 0) 2 0) 3 0) 4 0) 5 0) 6 0) 7 0) 8 0)))] H := hP
                    have hD : va_D A [(h0, .inr (9, [.int 0, .int 0, .int 5, .ref a1, .ref a2, .ref a3, .ref a4, .ref a5, .ref a6])), (a3, .inl (G 0, 10, .inl (upd (upd (upd (upd (upd (upd (upd (upd (upd f 0 0) 1 0) 2 0) 3 0) 4 0) 5 0) 6 0) 7 0) 8 0)))] := hD
                    refine lv_iinc (v := 9) (lv' := [(1, .int 9), (0, .ref h0)]) hx hb dX9_clear_30 hl (k := 0) rfl (by decide) (by decide) rfl (fun ls hl => ?_)
                    refine lv_goto (tgt := 17) hx hb dX9_clear_33 (by decide) ?_
                    refine lv_iload_n hx hb dX9_clear_17 rfl (lv_at hl 0 rfl) ?_
                    refine lv_bipush (v := 10) hx hb dX9_clear_18 (by decide) ?_
                    refine lv_icmp_ge (tgt := 36) hx hb dX9_clear_20 (by decide) (fun c10 => ?_) (fun c10 => ?_)
                    · skip
                      exact absurd c10 (by decide)
                    · skip
                      refine lv_aload_n hx hb dX9_clear_23 rfl (lv_at hl 1 rfl) ?_
                      refine va_get (D := (dC, dI)) (ci := 9) (v := .ref a3) (C := RX9) (T := TX9) (N := 9) hx hb hg inG9 hown hK.1 hP 0 rfl rfl 5 (by decide) (hg _ wt_77) (fun _ h9 => h9) rfl dX9_clear_24 ?_
                      refine lv_iload_n hx hb dX9_clear_27 rfl (lv_at hl 0 rfl) ?_
                      refine lv_iconst (v := 0) hx hb dX9_clear_28 (by decide) ?_
                      refine va_iast hx hb hK.1 hP hD hS 1 0 rfl rfl (vp_in_iff.mpr ⟨by decide, by decide⟩) dX9_clear_29 (fun H locs hP hD hS => ?_)
                      have hP : va_P (dC, dI) vwCl [(h0, .inr (9, [.int 0, .int 0, .int 5, .ref a1, .ref a2, .ref a3, .ref a4, .ref a5, .ref a6])), (a3, .inl (G 0, 10, .inl (upd (upd (upd (upd (upd (upd (upd (upd (upd (upd f 0 0) 1 0) 2 0) 3 0) 4 0) 5 0) 6 0) 7 0) 8 0) 9 0)))] H := hP
                      have hD : va_D A [(h0, .inr (9, [.int 0, .int 0, .int 5, .ref a1, .ref a2, .ref a3, .ref a4, .ref a5, .ref a6])), (a3, .inl (G 0, 10, .inl (upd (upd (upd (upd (upd (upd (upd (upd (upd (upd f 0 0) 1 0) 2 0) 3 0) 4 0) 5 0) 6 0) 7 0) 8 0) 9 0)))] := hD
                      refine lv_iinc (v := 10) (lv' := [(1, .int 10), (0, .ref h0)]) hx hb dX9_clear_30 hl (k := 0) rfl (by decide) (by decide) rfl (fun ls hl => ?_)
                      refine lv_goto (tgt := 17) hx hb dX9_clear_33 (by decide) ?_
                      refine lv_iload_n hx hb dX9_clear_17 rfl (lv_at hl 0 rfl) ?_
                      refine lv_bipush (v := 10) hx hb dX9_clear_18 (by decide) ?_
                      refine lv_icmp_ge (tgt := 36) hx hb dX9_clear_20 (by decide) (fun c11 => ?_) (fun c11 => ?_)
                      · skip
                        have hP9 := hP.sub (ws' := [(h0, .inr (9, [.int 0, .int 0, .int 5, .ref a1, .ref a2, .ref a3, .ref a4, .ref a5, .ref a6])), (a3, .inl (G 0, 10, .inl (upd (upd (upd (upd (upd (upd (upd (upd (upd (upd f 0 0) 1 0) 2 0) 3 0) 4 0) 5 0) 6 0) 7 0) 8 0) 9 0)))]) [0, 1] rfl
                        have hD9 := hD.sub (ws' := [(h0, .inr (9, [.int 0, .int 0, .int 5, .ref a1, .ref a2, .ref a3, .ref a4, .ref a5, .ref a6])), (a3, .inl (G 0, 10, .inl (upd (upd (upd (upd (upd (upd (upd (upd (upd (upd f 0 0) 1 0) 2 0) 3 0) 4 0) 5 0) 6 0) 7 0) 8 0) 9 0)))]) [0, 1] (by decide) rfl
                        refine W.widen (k := 0) (n := 0) (by omega) (by omega) ?_
                        exact W.vret hx hb hr (fun t ht hW => ⟨⟨upd (upd (upd (upd (upd (upd (upd (upd (upd (upd f 0 0) 1 0) 2 0) 3 0) 4 0) 5 0) 6 0) 7 0) 8 0) 9 0, rfl, trivial, ⟨by rw [ht]; exact hP9, hD9⟩⟩, hS.F ht⟩) hS.2.2 dX9_clear_36
                      · skip
                        exact absurd c11 (by decide)

set_option maxHeartbeats 4000000 in
set_option maxRecDepth 100000 in
theorem c_X7_addBytes (l : Launch) (dC : Nat → ClassId) (dI : Nat → Nat → Nat) (G : Nat → ClassId) (sz : Nat) (h0 a : Nat) (v : Int64) (f : Nat → Int32)  : Met l yX7_addBytes (Cond.code yX7_addBytes cX7_addBytes 4 (some .boolean) :: GT) ({ frames := 0, cells := 0, slots := 0, locals := 0 } : Room) (PcW [.ref h0, .long v] dC dI G [(h0, .inr (7, [.int 0, .ref a])), (a, .inl (G 0, 320, .inl f))] sz) (va_Qi (fun (r : Int32) (u : Unit) => match u with | _ => (r = 1) ∧ True) (fun (u : Unit) (t : State) => match u with | _ => va_P (dC, dI) vwCl [(h0, .inr (7, [.int 8, .ref a]))] t.heap ∧ va_D (va_A [(h0, .inr (7, [.int 0, .ref a])), (a, .inl (G 0, 320, .inl f))] sz) [(h0, .inr (7, [.int 8, .ref a]))]) (va_A [(h0, .inr (7, [.int 0, .ref a])), (a, .inl (G 0, 320, .inl f))] sz)) 0 0 (va_A [(h0, .inr (7, [.int 0, .ref a])), (a, .inl (G 0, 320, .inl f))] sz) := by
  refine Met.ofW (cc := cX7_addBytes) (maxL := 4) (ret := (some .boolean)) (by decide) rfl ?_
  intro p e s m args below meth c s₁ B hml hv
  obtain ⟨rfl, hsz, hP, hK, hD0⟩ := hv
  have hx := B.exec
  have hb := B.bytes
  have hr := B.returns
  have hg : ∀ w ∈ GT, w.before ([.ref h0, .long v] : List Value).toArray s = true := fun w h => atoms_spec (ws := Cond.code yX7_addBytes cX7_addBytes 4 (some .boolean) :: GT) B.pre w (List.mem_cons_of_mem _ h)
  have hown : s.vm.findClass RX7 = some m.cls := findClass_of_methodNamed B.named
  have hlocks := B.notSynchronized
  subst hsz
  have hD := hD0.self (sz := s.heap.size)
  generalize hAe : va_A [(h0, .inr (7, [.int 0, .ref a])), (a, .inl (G 0, 320, .inl f))] s.heap.size = A at hD ⊢
  have hA : ∀ q : Nat, s.heap.size ≤ q → A q := fun q h => by rw [← hAe]; exact Or.inr h
  have hS : va_S A s.heap s.heap [] := va_S.rf
  have hl := lv_entry ([.ref h0, .long v]) (n := 4) (Nat.le_of_ble_eq_true rfl)
  rw [lg_entry_eq]
  generalize (lg_sl ([.ref h0, .long v]) ++ List.replicate (4 - (lg_sl ([.ref h0, .long v])).length) Slot.unset).toArray = ls at hl ⊢
  have hl : lv_has ls 4 [(0, .ref h0), (1, .long v)] := hl
  refine lv_aload_n hx hb dX7_addBytes_0 rfl (lv_at hl 0 rfl) ?_
  refine va_get (D := (dC, dI)) (ci := 7) (v := .int 0) (C := RX7) (T := TX7) (N := 2) hx hb hg inG7 hown hK.1 hP 0 rfl rfl 0 (by decide) (hg _ wt_40) (fun _ h9 => h9) rfl dX7_addBytes_1 ?_
  refine lv_if_lt (tgt := 20) hx hb dX7_addBytes_4 (by decide) (fun c1 => ?_) (fun c1 => ?_)
  · skip
    exact absurd c1 (by decide)
  · skip
    refine lv_aload_n hx hb dX7_addBytes_7 rfl (lv_at hl 0 rfl) ?_
    refine va_get (D := (dC, dI)) (ci := 7) (v := .int 0) (C := RX7) (T := TX7) (N := 2) hx hb hg inG7 hown hK.1 hP 0 rfl rfl 0 (by decide) (hg _ wt_40) (fun _ h9 => h9) rfl dX7_addBytes_8 ?_
    refine lv_bipush (v := 8) hx hb dX7_addBytes_11 (by decide) ?_
    refine lv_iadd hx hb dX7_addBytes_13 ?_
    refine lv_cg (y := 8) (by decide) ?_
    refine lv_sipush (v := 320) hx hb dX7_addBytes_14 (by decide) ?_
    refine lv_icmp_le (tgt := 22) hx hb dX7_addBytes_17 (by decide) (fun c2 => ?_) (fun c2 => ?_)
    · skip
      refine lv_bipush (v := 56) hx hb dX7_addBytes_22 (by decide) ?_
      refine lv_istore_n (lv' := [(3, .int 56), (0, .ref h0), (1, .long v)]) hx hb dX7_addBytes_24 rfl hl (by decide) rfl (fun ls hl => ?_)
      refine lv_iload_n hx hb dX7_addBytes_25 rfl (lv_at hl 0 rfl) ?_
      refine lv_if_lt (tgt := 62) hx hb dX7_addBytes_26 (by decide) (fun c3 => ?_) (fun c3 => ?_)
      · skip
        exact absurd c3 (by decide)
      · skip
        refine lv_aload_n hx hb dX7_addBytes_29 rfl (lv_at hl 1 rfl) ?_
        refine va_get (D := (dC, dI)) (ci := 7) (v := .ref a) (C := RX7) (T := TX7) (N := 2) hx hb hg inG7 hown hK.1 hP 0 rfl rfl 1 (by decide) (hg _ wt_43) (fun _ h9 => h9) rfl dX7_addBytes_30 ?_
        refine lv_aload_n hx hb dX7_addBytes_33 rfl (lv_at hl 1 rfl) ?_
        refine va_get (D := (dC, dI)) (ci := 7) (v := .int 0) (C := RX7) (T := TX7) (N := 2) hx hb hg inG7 hown hK.1 hP 0 rfl rfl 0 (by decide) (hg _ wt_40) (fun _ h9 => h9) rfl dX7_addBytes_34 ?_
        refine lv_lload_n hx hb dX7_addBytes_37 rfl (lv_at hl 2 rfl) ?_
        refine lv_iload_n hx hb dX7_addBytes_38 rfl (lv_at hl 0 rfl) ?_
        refine lv_lushr (v := _) hx hb dX7_addBytes_39 rfl ?_
        refine lv_topl (fun v4 ev4 => ?_)
        refine lv_ldc2 (v := 255) hx hb hown (hg _ wt_353) dX7_addBytes_40 ?_
        refine lv_land hx hb dX7_addBytes_43 ?_
        refine lv_l2i (v := _) hx hb dX7_addBytes_44 rfl ?_
        refine lv_topi (fun v5 ev5 => ?_)
        refine va_iast hx hb hK.1 hP hD hS 1 0 rfl rfl (vp_in_iff.mpr ⟨by decide, by decide⟩) dX7_addBytes_45 (fun H locs hP hD hS => ?_)
        have hP : va_P (dC, dI) vwCl [(h0, .inr (7, [.int 0, .ref a])), (a, .inl (G 0, 320, .inl (upd f 0 v5)))] H := hP
        have hD : va_D A [(h0, .inr (7, [.int 0, .ref a])), (a, .inl (G 0, 320, .inl (upd f 0 v5)))] := hD
        refine lv_aload_n hx hb dX7_addBytes_46 rfl (lv_at hl 1 rfl) ?_
        refine lv_dup hx hb dX7_addBytes_47 rfl ?_
        refine va_get (D := (dC, dI)) (ci := 7) (v := .int 0) (C := RX7) (T := TX7) (N := 2) hx hb hg inG7 hown hK.1 hP 0 rfl rfl 0 (by decide) (hg _ wt_40) (fun _ h9 => h9) rfl dX7_addBytes_48 ?_
        refine lv_iconst (v := 1) hx hb dX7_addBytes_51 (by decide) ?_
        refine lv_iadd hx hb dX7_addBytes_52 ?_
        refine lv_cg (y := 1) (by decide) ?_
        refine va_put (D := (dC, dI)) (ci := 7) (v := .int 1) (ty := .int) (C := RX7) (T := TX7) (N := 2) hx hb hg inG7 tyX7 tyX7_ok nmX7 hown hK.1 hP hD hS 0 rfl rfl 0 (by decide) (hg _ wt_40) (fun _ h9 => h9) rfl (by decide +kernel) rfl rfl (Nat.le_of_ble_eq_true rfl) dX7_addBytes_53 (fun H locs hP hD hS => ?_)
        have hP : va_P (dC, dI) vwCl [(h0, .inr (7, [.int 1, .ref a])), (a, .inl (G 0, 320, .inl (upd f 0 v5)))] H := hP
        have hD : va_D A [(h0, .inr (7, [.int 1, .ref a])), (a, .inl (G 0, 320, .inl (upd f 0 v5)))] := hD
        refine lv_iinc (v := 48) (lv' := [(3, .int 48), (0, .ref h0), (1, .long v)]) hx hb dX7_addBytes_56 hl (k := 0) rfl (by decide) (by decide) rfl (fun ls hl => ?_)
        refine lv_goto (tgt := 25) hx hb dX7_addBytes_59 (by decide) ?_
        refine lv_iload_n hx hb dX7_addBytes_25 rfl (lv_at hl 0 rfl) ?_
        refine lv_if_lt (tgt := 62) hx hb dX7_addBytes_26 (by decide) (fun c6 => ?_) (fun c6 => ?_)
        · skip
          exact absurd c6 (by decide)
        · skip
          refine lv_aload_n hx hb dX7_addBytes_29 rfl (lv_at hl 1 rfl) ?_
          refine va_get (D := (dC, dI)) (ci := 7) (v := .ref a) (C := RX7) (T := TX7) (N := 2) hx hb hg inG7 hown hK.1 hP 0 rfl rfl 1 (by decide) (hg _ wt_43) (fun _ h9 => h9) rfl dX7_addBytes_30 ?_
          refine lv_aload_n hx hb dX7_addBytes_33 rfl (lv_at hl 1 rfl) ?_
          refine va_get (D := (dC, dI)) (ci := 7) (v := .int 1) (C := RX7) (T := TX7) (N := 2) hx hb hg inG7 hown hK.1 hP 0 rfl rfl 0 (by decide) (hg _ wt_40) (fun _ h9 => h9) rfl dX7_addBytes_34 ?_
          refine lv_lload_n hx hb dX7_addBytes_37 rfl (lv_at hl 2 rfl) ?_
          refine lv_iload_n hx hb dX7_addBytes_38 rfl (lv_at hl 0 rfl) ?_
          refine lv_lushr (v := _) hx hb dX7_addBytes_39 rfl ?_
          refine lv_topl (fun v7 ev7 => ?_)
          refine lv_ldc2 (v := 255) hx hb hown (hg _ wt_353) dX7_addBytes_40 ?_
          refine lv_land hx hb dX7_addBytes_43 ?_
          refine lv_l2i (v := _) hx hb dX7_addBytes_44 rfl ?_
          refine lv_topi (fun v8 ev8 => ?_)
          refine va_iast hx hb hK.1 hP hD hS 1 0 rfl rfl (vp_in_iff.mpr ⟨by decide, by decide⟩) dX7_addBytes_45 (fun H locs hP hD hS => ?_)
          have hP : va_P (dC, dI) vwCl [(h0, .inr (7, [.int 1, .ref a])), (a, .inl (G 0, 320, .inl (upd (upd f 0 v5) 1 v8)))] H := hP
          have hD : va_D A [(h0, .inr (7, [.int 1, .ref a])), (a, .inl (G 0, 320, .inl (upd (upd f 0 v5) 1 v8)))] := hD
          refine lv_aload_n hx hb dX7_addBytes_46 rfl (lv_at hl 1 rfl) ?_
          refine lv_dup hx hb dX7_addBytes_47 rfl ?_
          refine va_get (D := (dC, dI)) (ci := 7) (v := .int 1) (C := RX7) (T := TX7) (N := 2) hx hb hg inG7 hown hK.1 hP 0 rfl rfl 0 (by decide) (hg _ wt_40) (fun _ h9 => h9) rfl dX7_addBytes_48 ?_
          refine lv_iconst (v := 1) hx hb dX7_addBytes_51 (by decide) ?_
          refine lv_iadd hx hb dX7_addBytes_52 ?_
          refine lv_cg (y := 2) (by decide) ?_
          refine va_put (D := (dC, dI)) (ci := 7) (v := .int 2) (ty := .int) (C := RX7) (T := TX7) (N := 2) hx hb hg inG7 tyX7 tyX7_ok nmX7 hown hK.1 hP hD hS 0 rfl rfl 0 (by decide) (hg _ wt_40) (fun _ h9 => h9) rfl (by decide +kernel) rfl rfl (Nat.le_of_ble_eq_true rfl) dX7_addBytes_53 (fun H locs hP hD hS => ?_)
          have hP : va_P (dC, dI) vwCl [(h0, .inr (7, [.int 2, .ref a])), (a, .inl (G 0, 320, .inl (upd (upd f 0 v5) 1 v8)))] H := hP
          have hD : va_D A [(h0, .inr (7, [.int 2, .ref a])), (a, .inl (G 0, 320, .inl (upd (upd f 0 v5) 1 v8)))] := hD
          refine lv_iinc (v := 40) (lv' := [(3, .int 40), (0, .ref h0), (1, .long v)]) hx hb dX7_addBytes_56 hl (k := 0) rfl (by decide) (by decide) rfl (fun ls hl => ?_)
          refine lv_goto (tgt := 25) hx hb dX7_addBytes_59 (by decide) ?_
          refine lv_iload_n hx hb dX7_addBytes_25 rfl (lv_at hl 0 rfl) ?_
          refine lv_if_lt (tgt := 62) hx hb dX7_addBytes_26 (by decide) (fun c9 => ?_) (fun c9 => ?_)
          · skip
            exact absurd c9 (by decide)
          · skip
            refine lv_aload_n hx hb dX7_addBytes_29 rfl (lv_at hl 1 rfl) ?_
            refine va_get (D := (dC, dI)) (ci := 7) (v := .ref a) (C := RX7) (T := TX7) (N := 2) hx hb hg inG7 hown hK.1 hP 0 rfl rfl 1 (by decide) (hg _ wt_43) (fun _ h9 => h9) rfl dX7_addBytes_30 ?_
            refine lv_aload_n hx hb dX7_addBytes_33 rfl (lv_at hl 1 rfl) ?_
            refine va_get (D := (dC, dI)) (ci := 7) (v := .int 2) (C := RX7) (T := TX7) (N := 2) hx hb hg inG7 hown hK.1 hP 0 rfl rfl 0 (by decide) (hg _ wt_40) (fun _ h9 => h9) rfl dX7_addBytes_34 ?_
            refine lv_lload_n hx hb dX7_addBytes_37 rfl (lv_at hl 2 rfl) ?_
            refine lv_iload_n hx hb dX7_addBytes_38 rfl (lv_at hl 0 rfl) ?_
            refine lv_lushr (v := _) hx hb dX7_addBytes_39 rfl ?_
            refine lv_topl (fun v10 ev10 => ?_)
            refine lv_ldc2 (v := 255) hx hb hown (hg _ wt_353) dX7_addBytes_40 ?_
            refine lv_land hx hb dX7_addBytes_43 ?_
            refine lv_l2i (v := _) hx hb dX7_addBytes_44 rfl ?_
            refine lv_topi (fun v11 ev11 => ?_)
            refine va_iast hx hb hK.1 hP hD hS 1 0 rfl rfl (vp_in_iff.mpr ⟨by decide, by decide⟩) dX7_addBytes_45 (fun H locs hP hD hS => ?_)
            have hP : va_P (dC, dI) vwCl [(h0, .inr (7, [.int 2, .ref a])), (a, .inl (G 0, 320, .inl (upd (upd (upd f 0 v5) 1 v8) 2 v11)))] H := hP
            have hD : va_D A [(h0, .inr (7, [.int 2, .ref a])), (a, .inl (G 0, 320, .inl (upd (upd (upd f 0 v5) 1 v8) 2 v11)))] := hD
            refine lv_aload_n hx hb dX7_addBytes_46 rfl (lv_at hl 1 rfl) ?_
            refine lv_dup hx hb dX7_addBytes_47 rfl ?_
            refine va_get (D := (dC, dI)) (ci := 7) (v := .int 2) (C := RX7) (T := TX7) (N := 2) hx hb hg inG7 hown hK.1 hP 0 rfl rfl 0 (by decide) (hg _ wt_40) (fun _ h9 => h9) rfl dX7_addBytes_48 ?_
            refine lv_iconst (v := 1) hx hb dX7_addBytes_51 (by decide) ?_
            refine lv_iadd hx hb dX7_addBytes_52 ?_
            refine lv_cg (y := 3) (by decide) ?_
            refine va_put (D := (dC, dI)) (ci := 7) (v := .int 3) (ty := .int) (C := RX7) (T := TX7) (N := 2) hx hb hg inG7 tyX7 tyX7_ok nmX7 hown hK.1 hP hD hS 0 rfl rfl 0 (by decide) (hg _ wt_40) (fun _ h9 => h9) rfl (by decide +kernel) rfl rfl (Nat.le_of_ble_eq_true rfl) dX7_addBytes_53 (fun H locs hP hD hS => ?_)
            have hP : va_P (dC, dI) vwCl [(h0, .inr (7, [.int 3, .ref a])), (a, .inl (G 0, 320, .inl (upd (upd (upd f 0 v5) 1 v8) 2 v11)))] H := hP
            have hD : va_D A [(h0, .inr (7, [.int 3, .ref a])), (a, .inl (G 0, 320, .inl (upd (upd (upd f 0 v5) 1 v8) 2 v11)))] := hD
            refine lv_iinc (v := 32) (lv' := [(3, .int 32), (0, .ref h0), (1, .long v)]) hx hb dX7_addBytes_56 hl (k := 0) rfl (by decide) (by decide) rfl (fun ls hl => ?_)
            refine lv_goto (tgt := 25) hx hb dX7_addBytes_59 (by decide) ?_
            refine lv_iload_n hx hb dX7_addBytes_25 rfl (lv_at hl 0 rfl) ?_
            refine lv_if_lt (tgt := 62) hx hb dX7_addBytes_26 (by decide) (fun c12 => ?_) (fun c12 => ?_)
            · skip
              exact absurd c12 (by decide)
            · skip
              refine lv_aload_n hx hb dX7_addBytes_29 rfl (lv_at hl 1 rfl) ?_
              refine va_get (D := (dC, dI)) (ci := 7) (v := .ref a) (C := RX7) (T := TX7) (N := 2) hx hb hg inG7 hown hK.1 hP 0 rfl rfl 1 (by decide) (hg _ wt_43) (fun _ h9 => h9) rfl dX7_addBytes_30 ?_
              refine lv_aload_n hx hb dX7_addBytes_33 rfl (lv_at hl 1 rfl) ?_
              refine va_get (D := (dC, dI)) (ci := 7) (v := .int 3) (C := RX7) (T := TX7) (N := 2) hx hb hg inG7 hown hK.1 hP 0 rfl rfl 0 (by decide) (hg _ wt_40) (fun _ h9 => h9) rfl dX7_addBytes_34 ?_
              refine lv_lload_n hx hb dX7_addBytes_37 rfl (lv_at hl 2 rfl) ?_
              refine lv_iload_n hx hb dX7_addBytes_38 rfl (lv_at hl 0 rfl) ?_
              refine lv_lushr (v := _) hx hb dX7_addBytes_39 rfl ?_
              refine lv_topl (fun v13 ev13 => ?_)
              refine lv_ldc2 (v := 255) hx hb hown (hg _ wt_353) dX7_addBytes_40 ?_
              refine lv_land hx hb dX7_addBytes_43 ?_
              refine lv_l2i (v := _) hx hb dX7_addBytes_44 rfl ?_
              refine lv_topi (fun v14 ev14 => ?_)
              refine va_iast hx hb hK.1 hP hD hS 1 0 rfl rfl (vp_in_iff.mpr ⟨by decide, by decide⟩) dX7_addBytes_45 (fun H locs hP hD hS => ?_)
              have hP : va_P (dC, dI) vwCl [(h0, .inr (7, [.int 3, .ref a])), (a, .inl (G 0, 320, .inl (upd (upd (upd (upd f 0 v5) 1 v8) 2 v11) 3 v14)))] H := hP
              have hD : va_D A [(h0, .inr (7, [.int 3, .ref a])), (a, .inl (G 0, 320, .inl (upd (upd (upd (upd f 0 v5) 1 v8) 2 v11) 3 v14)))] := hD
              refine lv_aload_n hx hb dX7_addBytes_46 rfl (lv_at hl 1 rfl) ?_
              refine lv_dup hx hb dX7_addBytes_47 rfl ?_
              refine va_get (D := (dC, dI)) (ci := 7) (v := .int 3) (C := RX7) (T := TX7) (N := 2) hx hb hg inG7 hown hK.1 hP 0 rfl rfl 0 (by decide) (hg _ wt_40) (fun _ h9 => h9) rfl dX7_addBytes_48 ?_
              refine lv_iconst (v := 1) hx hb dX7_addBytes_51 (by decide) ?_
              refine lv_iadd hx hb dX7_addBytes_52 ?_
              refine lv_cg (y := 4) (by decide) ?_
              refine va_put (D := (dC, dI)) (ci := 7) (v := .int 4) (ty := .int) (C := RX7) (T := TX7) (N := 2) hx hb hg inG7 tyX7 tyX7_ok nmX7 hown hK.1 hP hD hS 0 rfl rfl 0 (by decide) (hg _ wt_40) (fun _ h9 => h9) rfl (by decide +kernel) rfl rfl (Nat.le_of_ble_eq_true rfl) dX7_addBytes_53 (fun H locs hP hD hS => ?_)
              have hP : va_P (dC, dI) vwCl [(h0, .inr (7, [.int 4, .ref a])), (a, .inl (G 0, 320, .inl (upd (upd (upd (upd f 0 v5) 1 v8) 2 v11) 3 v14)))] H := hP
              have hD : va_D A [(h0, .inr (7, [.int 4, .ref a])), (a, .inl (G 0, 320, .inl (upd (upd (upd (upd f 0 v5) 1 v8) 2 v11) 3 v14)))] := hD
              refine lv_iinc (v := 24) (lv' := [(3, .int 24), (0, .ref h0), (1, .long v)]) hx hb dX7_addBytes_56 hl (k := 0) rfl (by decide) (by decide) rfl (fun ls hl => ?_)
              refine lv_goto (tgt := 25) hx hb dX7_addBytes_59 (by decide) ?_
              refine lv_iload_n hx hb dX7_addBytes_25 rfl (lv_at hl 0 rfl) ?_
              refine lv_if_lt (tgt := 62) hx hb dX7_addBytes_26 (by decide) (fun c15 => ?_) (fun c15 => ?_)
              · skip
                exact absurd c15 (by decide)
              · skip
                refine lv_aload_n hx hb dX7_addBytes_29 rfl (lv_at hl 1 rfl) ?_
                refine va_get (D := (dC, dI)) (ci := 7) (v := .ref a) (C := RX7) (T := TX7) (N := 2) hx hb hg inG7 hown hK.1 hP 0 rfl rfl 1 (by decide) (hg _ wt_43) (fun _ h9 => h9) rfl dX7_addBytes_30 ?_
                refine lv_aload_n hx hb dX7_addBytes_33 rfl (lv_at hl 1 rfl) ?_
                refine va_get (D := (dC, dI)) (ci := 7) (v := .int 4) (C := RX7) (T := TX7) (N := 2) hx hb hg inG7 hown hK.1 hP 0 rfl rfl 0 (by decide) (hg _ wt_40) (fun _ h9 => h9) rfl dX7_addBytes_34 ?_
                refine lv_lload_n hx hb dX7_addBytes_37 rfl (lv_at hl 2 rfl) ?_
                refine lv_iload_n hx hb dX7_addBytes_38 rfl (lv_at hl 0 rfl) ?_
                refine lv_lushr (v := _) hx hb dX7_addBytes_39 rfl ?_
                refine lv_topl (fun v16 ev16 => ?_)
                refine lv_ldc2 (v := 255) hx hb hown (hg _ wt_353) dX7_addBytes_40 ?_
                refine lv_land hx hb dX7_addBytes_43 ?_
                refine lv_l2i (v := _) hx hb dX7_addBytes_44 rfl ?_
                refine lv_topi (fun v17 ev17 => ?_)
                refine va_iast hx hb hK.1 hP hD hS 1 0 rfl rfl (vp_in_iff.mpr ⟨by decide, by decide⟩) dX7_addBytes_45 (fun H locs hP hD hS => ?_)
                have hP : va_P (dC, dI) vwCl [(h0, .inr (7, [.int 4, .ref a])), (a, .inl (G 0, 320, .inl (upd (upd (upd (upd (upd f 0 v5) 1 v8) 2 v11) 3 v14) 4 v17)))] H := hP
                have hD : va_D A [(h0, .inr (7, [.int 4, .ref a])), (a, .inl (G 0, 320, .inl (upd (upd (upd (upd (upd f 0 v5) 1 v8) 2 v11) 3 v14) 4 v17)))] := hD
                refine lv_aload_n hx hb dX7_addBytes_46 rfl (lv_at hl 1 rfl) ?_
                refine lv_dup hx hb dX7_addBytes_47 rfl ?_
                refine va_get (D := (dC, dI)) (ci := 7) (v := .int 4) (C := RX7) (T := TX7) (N := 2) hx hb hg inG7 hown hK.1 hP 0 rfl rfl 0 (by decide) (hg _ wt_40) (fun _ h9 => h9) rfl dX7_addBytes_48 ?_
                refine lv_iconst (v := 1) hx hb dX7_addBytes_51 (by decide) ?_
                refine lv_iadd hx hb dX7_addBytes_52 ?_
                refine lv_cg (y := 5) (by decide) ?_
                refine va_put (D := (dC, dI)) (ci := 7) (v := .int 5) (ty := .int) (C := RX7) (T := TX7) (N := 2) hx hb hg inG7 tyX7 tyX7_ok nmX7 hown hK.1 hP hD hS 0 rfl rfl 0 (by decide) (hg _ wt_40) (fun _ h9 => h9) rfl (by decide +kernel) rfl rfl (Nat.le_of_ble_eq_true rfl) dX7_addBytes_53 (fun H locs hP hD hS => ?_)
                have hP : va_P (dC, dI) vwCl [(h0, .inr (7, [.int 5, .ref a])), (a, .inl (G 0, 320, .inl (upd (upd (upd (upd (upd f 0 v5) 1 v8) 2 v11) 3 v14) 4 v17)))] H := hP
                have hD : va_D A [(h0, .inr (7, [.int 5, .ref a])), (a, .inl (G 0, 320, .inl (upd (upd (upd (upd (upd f 0 v5) 1 v8) 2 v11) 3 v14) 4 v17)))] := hD
                refine lv_iinc (v := 16) (lv' := [(3, .int 16), (0, .ref h0), (1, .long v)]) hx hb dX7_addBytes_56 hl (k := 0) rfl (by decide) (by decide) rfl (fun ls hl => ?_)
                refine lv_goto (tgt := 25) hx hb dX7_addBytes_59 (by decide) ?_
                refine lv_iload_n hx hb dX7_addBytes_25 rfl (lv_at hl 0 rfl) ?_
                refine lv_if_lt (tgt := 62) hx hb dX7_addBytes_26 (by decide) (fun c18 => ?_) (fun c18 => ?_)
                · skip
                  exact absurd c18 (by decide)
                · skip
                  refine lv_aload_n hx hb dX7_addBytes_29 rfl (lv_at hl 1 rfl) ?_
                  refine va_get (D := (dC, dI)) (ci := 7) (v := .ref a) (C := RX7) (T := TX7) (N := 2) hx hb hg inG7 hown hK.1 hP 0 rfl rfl 1 (by decide) (hg _ wt_43) (fun _ h9 => h9) rfl dX7_addBytes_30 ?_
                  refine lv_aload_n hx hb dX7_addBytes_33 rfl (lv_at hl 1 rfl) ?_
                  refine va_get (D := (dC, dI)) (ci := 7) (v := .int 5) (C := RX7) (T := TX7) (N := 2) hx hb hg inG7 hown hK.1 hP 0 rfl rfl 0 (by decide) (hg _ wt_40) (fun _ h9 => h9) rfl dX7_addBytes_34 ?_
                  refine lv_lload_n hx hb dX7_addBytes_37 rfl (lv_at hl 2 rfl) ?_
                  refine lv_iload_n hx hb dX7_addBytes_38 rfl (lv_at hl 0 rfl) ?_
                  refine lv_lushr (v := _) hx hb dX7_addBytes_39 rfl ?_
                  refine lv_topl (fun v19 ev19 => ?_)
                  refine lv_ldc2 (v := 255) hx hb hown (hg _ wt_353) dX7_addBytes_40 ?_
                  refine lv_land hx hb dX7_addBytes_43 ?_
                  refine lv_l2i (v := _) hx hb dX7_addBytes_44 rfl ?_
                  refine lv_topi (fun v20 ev20 => ?_)
                  refine va_iast hx hb hK.1 hP hD hS 1 0 rfl rfl (vp_in_iff.mpr ⟨by decide, by decide⟩) dX7_addBytes_45 (fun H locs hP hD hS => ?_)
                  have hP : va_P (dC, dI) vwCl [(h0, .inr (7, [.int 5, .ref a])), (a, .inl (G 0, 320, .inl (upd (upd (upd (upd (upd (upd f 0 v5) 1 v8) 2 v11) 3 v14) 4 v17) 5 v20)))] H := hP
                  have hD : va_D A [(h0, .inr (7, [.int 5, .ref a])), (a, .inl (G 0, 320, .inl (upd (upd (upd (upd (upd (upd f 0 v5) 1 v8) 2 v11) 3 v14) 4 v17) 5 v20)))] := hD
                  refine lv_aload_n hx hb dX7_addBytes_46 rfl (lv_at hl 1 rfl) ?_
                  refine lv_dup hx hb dX7_addBytes_47 rfl ?_
                  refine va_get (D := (dC, dI)) (ci := 7) (v := .int 5) (C := RX7) (T := TX7) (N := 2) hx hb hg inG7 hown hK.1 hP 0 rfl rfl 0 (by decide) (hg _ wt_40) (fun _ h9 => h9) rfl dX7_addBytes_48 ?_
                  refine lv_iconst (v := 1) hx hb dX7_addBytes_51 (by decide) ?_
                  refine lv_iadd hx hb dX7_addBytes_52 ?_
                  refine lv_cg (y := 6) (by decide) ?_
                  refine va_put (D := (dC, dI)) (ci := 7) (v := .int 6) (ty := .int) (C := RX7) (T := TX7) (N := 2) hx hb hg inG7 tyX7 tyX7_ok nmX7 hown hK.1 hP hD hS 0 rfl rfl 0 (by decide) (hg _ wt_40) (fun _ h9 => h9) rfl (by decide +kernel) rfl rfl (Nat.le_of_ble_eq_true rfl) dX7_addBytes_53 (fun H locs hP hD hS => ?_)
                  have hP : va_P (dC, dI) vwCl [(h0, .inr (7, [.int 6, .ref a])), (a, .inl (G 0, 320, .inl (upd (upd (upd (upd (upd (upd f 0 v5) 1 v8) 2 v11) 3 v14) 4 v17) 5 v20)))] H := hP
                  have hD : va_D A [(h0, .inr (7, [.int 6, .ref a])), (a, .inl (G 0, 320, .inl (upd (upd (upd (upd (upd (upd f 0 v5) 1 v8) 2 v11) 3 v14) 4 v17) 5 v20)))] := hD
                  refine lv_iinc (v := 8) (lv' := [(3, .int 8), (0, .ref h0), (1, .long v)]) hx hb dX7_addBytes_56 hl (k := 0) rfl (by decide) (by decide) rfl (fun ls hl => ?_)
                  refine lv_goto (tgt := 25) hx hb dX7_addBytes_59 (by decide) ?_
                  refine lv_iload_n hx hb dX7_addBytes_25 rfl (lv_at hl 0 rfl) ?_
                  refine lv_if_lt (tgt := 62) hx hb dX7_addBytes_26 (by decide) (fun c21 => ?_) (fun c21 => ?_)
                  · skip
                    exact absurd c21 (by decide)
                  · skip
                    refine lv_aload_n hx hb dX7_addBytes_29 rfl (lv_at hl 1 rfl) ?_
                    refine va_get (D := (dC, dI)) (ci := 7) (v := .ref a) (C := RX7) (T := TX7) (N := 2) hx hb hg inG7 hown hK.1 hP 0 rfl rfl 1 (by decide) (hg _ wt_43) (fun _ h9 => h9) rfl dX7_addBytes_30 ?_
                    refine lv_aload_n hx hb dX7_addBytes_33 rfl (lv_at hl 1 rfl) ?_
                    refine va_get (D := (dC, dI)) (ci := 7) (v := .int 6) (C := RX7) (T := TX7) (N := 2) hx hb hg inG7 hown hK.1 hP 0 rfl rfl 0 (by decide) (hg _ wt_40) (fun _ h9 => h9) rfl dX7_addBytes_34 ?_
                    refine lv_lload_n hx hb dX7_addBytes_37 rfl (lv_at hl 2 rfl) ?_
                    refine lv_iload_n hx hb dX7_addBytes_38 rfl (lv_at hl 0 rfl) ?_
                    refine lv_lushr (v := _) hx hb dX7_addBytes_39 rfl ?_
                    refine lv_topl (fun v22 ev22 => ?_)
                    refine lv_ldc2 (v := 255) hx hb hown (hg _ wt_353) dX7_addBytes_40 ?_
                    refine lv_land hx hb dX7_addBytes_43 ?_
                    refine lv_l2i (v := _) hx hb dX7_addBytes_44 rfl ?_
                    refine lv_topi (fun v23 ev23 => ?_)
                    refine va_iast hx hb hK.1 hP hD hS 1 0 rfl rfl (vp_in_iff.mpr ⟨by decide, by decide⟩) dX7_addBytes_45 (fun H locs hP hD hS => ?_)
                    have hP : va_P (dC, dI) vwCl [(h0, .inr (7, [.int 6, .ref a])), (a, .inl (G 0, 320, .inl (upd (upd (upd (upd (upd (upd (upd f 0 v5) 1 v8) 2 v11) 3 v14) 4 v17) 5 v20) 6 v23)))] H := hP
                    have hD : va_D A [(h0, .inr (7, [.int 6, .ref a])), (a, .inl (G 0, 320, .inl (upd (upd (upd (upd (upd (upd (upd f 0 v5) 1 v8) 2 v11) 3 v14) 4 v17) 5 v20) 6 v23)))] := hD
                    refine lv_aload_n hx hb dX7_addBytes_46 rfl (lv_at hl 1 rfl) ?_
                    refine lv_dup hx hb dX7_addBytes_47 rfl ?_
                    refine va_get (D := (dC, dI)) (ci := 7) (v := .int 6) (C := RX7) (T := TX7) (N := 2) hx hb hg inG7 hown hK.1 hP 0 rfl rfl 0 (by decide) (hg _ wt_40) (fun _ h9 => h9) rfl dX7_addBytes_48 ?_
                    refine lv_iconst (v := 1) hx hb dX7_addBytes_51 (by decide) ?_
                    refine lv_iadd hx hb dX7_addBytes_52 ?_
                    refine lv_cg (y := 7) (by decide) ?_
                    refine va_put (D := (dC, dI)) (ci := 7) (v := .int 7) (ty := .int) (C := RX7) (T := TX7) (N := 2) hx hb hg inG7 tyX7 tyX7_ok nmX7 hown hK.1 hP hD hS 0 rfl rfl 0 (by decide) (hg _ wt_40) (fun _ h9 => h9) rfl (by decide +kernel) rfl rfl (Nat.le_of_ble_eq_true rfl) dX7_addBytes_53 (fun H locs hP hD hS => ?_)
                    have hP : va_P (dC, dI) vwCl [(h0, .inr (7, [.int 7, .ref a])), (a, .inl (G 0, 320, .inl (upd (upd (upd (upd (upd (upd (upd f 0 v5) 1 v8) 2 v11) 3 v14) 4 v17) 5 v20) 6 v23)))] H := hP
                    have hD : va_D A [(h0, .inr (7, [.int 7, .ref a])), (a, .inl (G 0, 320, .inl (upd (upd (upd (upd (upd (upd (upd f 0 v5) 1 v8) 2 v11) 3 v14) 4 v17) 5 v20) 6 v23)))] := hD
                    refine lv_iinc (v := 0) (lv' := [(3, .int 0), (0, .ref h0), (1, .long v)]) hx hb dX7_addBytes_56 hl (k := 0) rfl (by decide) (by decide) rfl (fun ls hl => ?_)
                    refine lv_goto (tgt := 25) hx hb dX7_addBytes_59 (by decide) ?_
                    refine lv_iload_n hx hb dX7_addBytes_25 rfl (lv_at hl 0 rfl) ?_
                    refine lv_if_lt (tgt := 62) hx hb dX7_addBytes_26 (by decide) (fun c24 => ?_) (fun c24 => ?_)
                    · skip
                      exact absurd c24 (by decide)
                    · skip
                      refine lv_aload_n hx hb dX7_addBytes_29 rfl (lv_at hl 1 rfl) ?_
                      refine va_get (D := (dC, dI)) (ci := 7) (v := .ref a) (C := RX7) (T := TX7) (N := 2) hx hb hg inG7 hown hK.1 hP 0 rfl rfl 1 (by decide) (hg _ wt_43) (fun _ h9 => h9) rfl dX7_addBytes_30 ?_
                      refine lv_aload_n hx hb dX7_addBytes_33 rfl (lv_at hl 1 rfl) ?_
                      refine va_get (D := (dC, dI)) (ci := 7) (v := .int 7) (C := RX7) (T := TX7) (N := 2) hx hb hg inG7 hown hK.1 hP 0 rfl rfl 0 (by decide) (hg _ wt_40) (fun _ h9 => h9) rfl dX7_addBytes_34 ?_
                      refine lv_lload_n hx hb dX7_addBytes_37 rfl (lv_at hl 2 rfl) ?_
                      refine lv_iload_n hx hb dX7_addBytes_38 rfl (lv_at hl 0 rfl) ?_
                      refine lv_lushr (v := _) hx hb dX7_addBytes_39 rfl ?_
                      refine lv_topl (fun v25 ev25 => ?_)
                      refine lv_ldc2 (v := 255) hx hb hown (hg _ wt_353) dX7_addBytes_40 ?_
                      refine lv_land hx hb dX7_addBytes_43 ?_
                      refine lv_l2i (v := _) hx hb dX7_addBytes_44 rfl ?_
                      refine lv_topi (fun v26 ev26 => ?_)
                      refine va_iast hx hb hK.1 hP hD hS 1 0 rfl rfl (vp_in_iff.mpr ⟨by decide, by decide⟩) dX7_addBytes_45 (fun H locs hP hD hS => ?_)
                      have hP : va_P (dC, dI) vwCl [(h0, .inr (7, [.int 7, .ref a])), (a, .inl (G 0, 320, .inl (upd (upd (upd (upd (upd (upd (upd (upd f 0 v5) 1 v8) 2 v11) 3 v14) 4 v17) 5 v20) 6 v23) 7 v26)))] H := hP
                      have hD : va_D A [(h0, .inr (7, [.int 7, .ref a])), (a, .inl (G 0, 320, .inl (upd (upd (upd (upd (upd (upd (upd (upd f 0 v5) 1 v8) 2 v11) 3 v14) 4 v17) 5 v20) 6 v23) 7 v26)))] := hD
                      refine lv_aload_n hx hb dX7_addBytes_46 rfl (lv_at hl 1 rfl) ?_
                      refine lv_dup hx hb dX7_addBytes_47 rfl ?_
                      refine va_get (D := (dC, dI)) (ci := 7) (v := .int 7) (C := RX7) (T := TX7) (N := 2) hx hb hg inG7 hown hK.1 hP 0 rfl rfl 0 (by decide) (hg _ wt_40) (fun _ h9 => h9) rfl dX7_addBytes_48 ?_
                      refine lv_iconst (v := 1) hx hb dX7_addBytes_51 (by decide) ?_
                      refine lv_iadd hx hb dX7_addBytes_52 ?_
                      refine lv_cg (y := 8) (by decide) ?_
                      refine va_put (D := (dC, dI)) (ci := 7) (v := .int 8) (ty := .int) (C := RX7) (T := TX7) (N := 2) hx hb hg inG7 tyX7 tyX7_ok nmX7 hown hK.1 hP hD hS 0 rfl rfl 0 (by decide) (hg _ wt_40) (fun _ h9 => h9) rfl (by decide +kernel) rfl rfl (Nat.le_of_ble_eq_true rfl) dX7_addBytes_53 (fun H locs hP hD hS => ?_)
                      have hP : va_P (dC, dI) vwCl [(h0, .inr (7, [.int 8, .ref a])), (a, .inl (G 0, 320, .inl (upd (upd (upd (upd (upd (upd (upd (upd f 0 v5) 1 v8) 2 v11) 3 v14) 4 v17) 5 v20) 6 v23) 7 v26)))] H := hP
                      have hD : va_D A [(h0, .inr (7, [.int 8, .ref a])), (a, .inl (G 0, 320, .inl (upd (upd (upd (upd (upd (upd (upd (upd f 0 v5) 1 v8) 2 v11) 3 v14) 4 v17) 5 v20) 6 v23) 7 v26)))] := hD
                      refine lv_iinc (v := (-8)) (lv' := [(3, .int (-8)), (0, .ref h0), (1, .long v)]) hx hb dX7_addBytes_56 hl (k := 0) rfl (by decide) (by decide) rfl (fun ls hl => ?_)
                      refine lv_goto (tgt := 25) hx hb dX7_addBytes_59 (by decide) ?_
                      refine lv_iload_n hx hb dX7_addBytes_25 rfl (lv_at hl 0 rfl) ?_
                      refine lv_if_lt (tgt := 62) hx hb dX7_addBytes_26 (by decide) (fun c27 => ?_) (fun c27 => ?_)
                      · skip
                        refine lv_iconst (v := 1) hx hb dX7_addBytes_62 (by decide) ?_
                        have hpost : (1 : Int32) = 1 := by
                          have t_c1 := nltI c1
                          have t_c2 := leI c2
                          have t_c3 := nltI c3
                          have t_c6 := nltI c6
                          have t_c9 := nltI c9
                          have t_c12 := nltI c12
                          have t_c15 := nltI c15
                          have t_c18 := nltI c18
                          have t_c21 := nltI c21
                          have t_c24 := nltI c24
                          have t_c27 := ltI c27
                          have : ((-8) : Int32).toInt = -8 := (by decide)
                          have : (0 : Int32).toInt = 0 := (by decide)
                          have : (8 : Int32).toInt = 8 := (by decide)
                          have : (16 : Int32).toInt = 16 := (by decide)
                          have : (24 : Int32).toInt = 24 := (by decide)
                          have : (32 : Int32).toInt = 32 := (by decide)
                          have : (40 : Int32).toInt = 40 := (by decide)
                          have : (48 : Int32).toInt = 48 := (by decide)
                          have : (56 : Int32).toInt = 56 := (by decide)
                          have : (320 : Int32).toInt = 320 := (by decide)
                          first | rfl | ((repeat' split) <;> first | rfl | omega)
                        have hP9 := hP.sub (ws' := [(h0, .inr (7, [.int 8, .ref a]))]) [0] rfl
                        have hD9 := hD.sub (ws' := [(h0, .inr (7, [.int 8, .ref a]))]) [0] (by decide) rfl
                        refine W.widen (k := 0) (n := 0) (by omega) (by omega) ?_
                        exact W.zret (v := 1) hx hb hr (by first | rfl | decide | exact rfl) (fun t ht hW => ⟨⟨1, (), rfl, ⟨hpost, trivial⟩, ⟨by rw [ht]; exact hP9, hD9⟩⟩, hS.F ht⟩) hS.2.2 dX7_addBytes_63
                      · skip
                        exact absurd c27 (by decide)
    · skip
      exact absurd c2 (by decide)

set_option maxHeartbeats 4000000 in
set_option maxRecDepth 100000 in
theorem c_X7_pastAll (l : Launch) (dC : Nat → ClassId) (dI : Nat → Nat → Nat) (G : Nat → ClassId) (sz : Nat) (h0 a : Nat) (x1 x2 : Int32)  : Met l yX7_pastAll (Cond.code yX7_pastAll cX7_pastAll 5 (some .int) :: GT) ({ frames := 0, cells := 0, slots := 0, locals := 0 } : Room) (PcR [.ref h0, .int 0, .int x1, .int x2] dC dI G [(h0, .inr (7, [.int 0, .ref a]))] sz) (va_Qi (fun (r : Int32) (u : Unit) => match u with | _ => (r = 0) ∧ True) (fun _ _ => True) (fun q : Nat => sz ≤ q)) 0 0 (fun q : Nat => sz ≤ q) := by
  refine Met.ofW (cc := cX7_pastAll) (maxL := 5) (ret := (some .int)) (by decide) rfl ?_
  intro p e s m args below meth c s₁ B hml hv
  obtain ⟨rfl, hsz, hP, hK⟩ := hv
  have hx := B.exec
  have hb := B.bytes
  have hr := B.returns
  have hg : ∀ w ∈ GT, w.before ([.ref h0, .int 0, .int x1, .int x2] : List Value).toArray s = true := fun w h => atoms_spec (ws := Cond.code yX7_pastAll cX7_pastAll 5 (some .int) :: GT) B.pre w (List.mem_cons_of_mem _ h)
  have hown : s.vm.findClass RX7 = some m.cls := findClass_of_methodNamed B.named
  have hlocks := B.notSynchronized
  subst hsz
  have hA : ∀ q : Nat, s.heap.size ≤ q → (fun q : Nat => s.heap.size ≤ q) q := fun _ h => h
  have hS : va_S (fun q : Nat => s.heap.size ≤ q) s.heap s.heap [] := va_S.rf
  have hl := lv_entry ([.ref h0, .int 0, .int x1, .int x2]) (n := 5) (Nat.le_of_ble_eq_true rfl)
  rw [lg_entry_eq]
  generalize (lg_sl ([.ref h0, .int 0, .int x1, .int x2]) ++ List.replicate (5 - (lg_sl ([.ref h0, .int 0, .int x1, .int x2])).length) Slot.unset).toArray = ls at hl ⊢
  have hl : lv_has ls 5 [(0, .ref h0), (1, .int 0), (2, .int x1), (3, .int x2)] := hl
  refine lv_iload_n hx hb dX7_pastAll_0 rfl (lv_at hl 1 rfl) ?_
  refine lv_istore (lv' := [(4, .int 0), (0, .ref h0), (1, .int 0), (2, .int x1), (3, .int x2)]) hx hb dX7_pastAll_1 hl (by decide) rfl (fun ls hl => ?_)
  refine lv_iload hx hb dX7_pastAll_3 (lv_at hl 0 rfl) ?_
  refine lv_if_lt (tgt := 45) hx hb dX7_pastAll_5 (by decide) (fun c1 => ?_) (fun c1 => ?_)
  · skip
    exact absurd c1 (by decide)
  · skip
    refine lv_iload hx hb dX7_pastAll_8 (lv_at hl 0 rfl) ?_
    refine lv_aload_n hx hb dX7_pastAll_10 rfl (lv_at hl 1 rfl) ?_
    refine va_get (D := (dC, dI)) (ci := 7) (v := .int 0) (C := RX7) (T := TX7) (N := 2) hx hb hg inG7 hown hK.1 hP 0 rfl rfl 0 (by decide) (hg _ wt_40) (fun _ h9 => h9) rfl dX7_pastAll_11 ?_
    refine lv_icmp_ge (tgt := 45) hx hb dX7_pastAll_14 (by decide) (fun c2 => ?_) (fun c2 => ?_)
    · skip
      refine lv_iload hx hb dX7_pastAll_45 (lv_at hl 0 rfl) ?_
      have hpost : (0 : Int32) = 0 := by
        have t_c1 := nltI c1
        have t_c2 := leI c2
        have : (0 : Int32).toInt = 0 := (by decide)
        first | rfl | ((repeat' split) <;> first | rfl | omega)
      refine W.widen (k := 0) (n := 0) (by omega) (by omega) ?_
      exact W.iret (v := 0) hx hb hr (fun t ht hW => ⟨⟨0, (), rfl, ⟨hpost, trivial⟩, trivial⟩, hS.F ht⟩) hS.2.2 dX7_pastAll_47
    · skip
      exact absurd c2 (by decide)

set_option maxHeartbeats 4000000 in
set_option maxRecDepth 100000 in
theorem c_X7_byteAt (l : Launch) (dC : Nat → ClassId) (dI : Nat → Nat → Nat) (G : Nat → ClassId) (sz : Nat) (h0 a : Nat)  : Met l yX7_byteAt (Cond.code yX7_byteAt cX7_byteAt 2 (some .int) :: GT) ({ frames := 0, cells := 0, slots := 0, locals := 0 } : Room) (PcR [.ref h0, .int 0] dC dI G [(h0, .inr (7, [.int 0, .ref a]))] sz) (va_Qi (fun (r : Int32) (u : Unit) => match u with | _ => (r = 0) ∧ True) (fun _ _ => True) (fun q : Nat => sz ≤ q)) 0 0 (fun q : Nat => sz ≤ q) := by
  refine Met.ofW (cc := cX7_byteAt) (maxL := 2) (ret := (some .int)) (by decide) rfl ?_
  intro p e s m args below meth c s₁ B hml hv
  obtain ⟨rfl, hsz, hP, hK⟩ := hv
  have hx := B.exec
  have hb := B.bytes
  have hr := B.returns
  have hg : ∀ w ∈ GT, w.before ([.ref h0, .int 0] : List Value).toArray s = true := fun w h => atoms_spec (ws := Cond.code yX7_byteAt cX7_byteAt 2 (some .int) :: GT) B.pre w (List.mem_cons_of_mem _ h)
  have hown : s.vm.findClass RX7 = some m.cls := findClass_of_methodNamed B.named
  have hlocks := B.notSynchronized
  subst hsz
  have hA : ∀ q : Nat, s.heap.size ≤ q → (fun q : Nat => s.heap.size ≤ q) q := fun _ h => h
  have hS : va_S (fun q : Nat => s.heap.size ≤ q) s.heap s.heap [] := va_S.rf
  have hl := lv_entry ([.ref h0, .int 0]) (n := 2) (Nat.le_of_ble_eq_true rfl)
  rw [lg_entry_eq]
  generalize (lg_sl ([.ref h0, .int 0]) ++ List.replicate (2 - (lg_sl ([.ref h0, .int 0])).length) Slot.unset).toArray = ls at hl ⊢
  have hl : lv_has ls 2 [(0, .ref h0), (1, .int 0)] := hl
  refine lv_iload_n hx hb dX7_byteAt_0 rfl (lv_at hl 1 rfl) ?_
  refine lv_if_lt (tgt := 21) hx hb dX7_byteAt_1 (by decide) (fun c1 => ?_) (fun c1 => ?_)
  · skip
    exact absurd c1 (by decide)
  · skip
    refine lv_iload_n hx hb dX7_byteAt_4 rfl (lv_at hl 1 rfl) ?_
    refine lv_aload_n hx hb dX7_byteAt_5 rfl (lv_at hl 0 rfl) ?_
    refine va_get (D := (dC, dI)) (ci := 7) (v := .int 0) (C := RX7) (T := TX7) (N := 2) hx hb hg inG7 hown hK.1 hP 0 rfl rfl 0 (by decide) (hg _ wt_40) (fun _ h9 => h9) rfl dX7_byteAt_6 ?_
    refine lv_icmp_ge (tgt := 21) hx hb dX7_byteAt_9 (by decide) (fun c2 => ?_) (fun c2 => ?_)
    · skip
      refine lv_iconst (v := 0) hx hb dX7_byteAt_21 (by decide) ?_
      have hpost : (0 : Int32) = 0 := by
        have t_c1 := nltI c1
        have t_c2 := leI c2
        have : (0 : Int32).toInt = 0 := (by decide)
        first | rfl | ((repeat' split) <;> first | rfl | omega)
      refine W.widen (k := 0) (n := 0) (by omega) (by omega) ?_
      exact W.iret (v := 0) hx hb hr (fun t ht hW => ⟨⟨0, (), rfl, ⟨hpost, trivial⟩, trivial⟩, hS.F ht⟩) hS.2.2 dX7_byteAt_22
    · skip
      exact absurd c2 (by decide)

set_option maxHeartbeats 4000000 in
set_option maxRecDepth 100000 in
theorem c_X5_begin (l : Launch) (dC : Nat → ClassId) (dI : Nat → Nat → Nat) (G : Nat → ClassId) (sz : Nat) (h0 tp td a1 a2 a3 a4 a5 a6 : Nat) (r0 r1 r2 r3 r4 r5 r6 r7 r8 r9 n b d : Int32) (f : Nat → Int32)  : Met l yX5_begin (Cond.code yX5_begin cX5_begin 1 none :: GT) ({ frames := 1, cells := 0, slots := 0, locals := 21 } : Room) (PcW [.ref h0] dC dI G [(h0, .inr (5, [.ref tp, .ref td, .int r0, .int r1, .int r2, .int r3, .int r4, .int r5, .int r6, .int r7, .int r8, .int r9])), (td, .inr (9, [.int n, .int b, .int d, .ref a1, .ref a2, .ref a3, .ref a4, .ref a5, .ref a6])), (a3, .inl (G 0, 10, .inl f))] sz) (va_Qv (fun (u : Nat → Int32) => match u with | u => True) (fun (u : Nat → Int32) (t : State) => match u with | u => va_P (dC, dI) vwCl [(h0, .inr (5, [.ref tp, .ref td, .int 0, .int 0, .int 0, .int r3, .int r4, .int 0, .int 0, .int 0, .int (-4), .int (-4)])), (td, .inr (9, [.int 0, .int 0, .int 5, .ref a1, .ref a2, .ref a3, .ref a4, .ref a5, .ref a6])), (a3, .inl (G 0, 10, .inl u))] t.heap ∧ va_D (va_A [(h0, .inr (5, [.ref tp, .ref td, .int r0, .int r1, .int r2, .int r3, .int r4, .int r5, .int r6, .int r7, .int r8, .int r9])), (td, .inr (9, [.int n, .int b, .int d, .ref a1, .ref a2, .ref a3, .ref a4, .ref a5, .ref a6])), (a3, .inl (G 0, 10, .inl f))] sz) [(h0, .inr (5, [.ref tp, .ref td, .int 0, .int 0, .int 0, .int r3, .int r4, .int 0, .int 0, .int 0, .int (-4), .int (-4)])), (td, .inr (9, [.int 0, .int 0, .int 5, .ref a1, .ref a2, .ref a3, .ref a4, .ref a5, .ref a6])), (a3, .inl (G 0, 10, .inl u))]) (va_A [(h0, .inr (5, [.ref tp, .ref td, .int r0, .int r1, .int r2, .int r3, .int r4, .int r5, .int r6, .int r7, .int r8, .int r9])), (td, .inr (9, [.int n, .int b, .int d, .ref a1, .ref a2, .ref a3, .ref a4, .ref a5, .ref a6])), (a3, .inl (G 0, 10, .inl f))] sz)) 0 0 (va_A [(h0, .inr (5, [.ref tp, .ref td, .int r0, .int r1, .int r2, .int r3, .int r4, .int r5, .int r6, .int r7, .int r8, .int r9])), (td, .inr (9, [.int n, .int b, .int d, .ref a1, .ref a2, .ref a3, .ref a4, .ref a5, .ref a6])), (a3, .inl (G 0, 10, .inl f))] sz) := by
  refine Met.ofW (cc := cX5_begin) (maxL := 1) (ret := none) (by decide) rfl ?_
  intro p e s m args below meth c s₁ B hml hv
  obtain ⟨rfl, hsz, hP, hK, hD0⟩ := hv
  have hx := B.exec
  have hb := B.bytes
  have hr := B.returns
  have hg : ∀ w ∈ GT, w.before ([.ref h0] : List Value).toArray s = true := fun w h => atoms_spec (ws := Cond.code yX5_begin cX5_begin 1 none :: GT) B.pre w (List.mem_cons_of_mem _ h)
  have hown : s.vm.findClass RX5 = some m.cls := findClass_of_methodNamed B.named
  have hlocks := B.notSynchronized
  subst hsz
  have hD := hD0.self (sz := s.heap.size)
  generalize hAe : va_A [(h0, .inr (5, [.ref tp, .ref td, .int r0, .int r1, .int r2, .int r3, .int r4, .int r5, .int r6, .int r7, .int r8, .int r9])), (td, .inr (9, [.int n, .int b, .int d, .ref a1, .ref a2, .ref a3, .ref a4, .ref a5, .ref a6])), (a3, .inl (G 0, 10, .inl f))] s.heap.size = A at hD ⊢
  have hA : ∀ q : Nat, s.heap.size ≤ q → A q := fun q h => by rw [← hAe]; exact Or.inr h
  have hS : va_S A s.heap s.heap [] := va_S.rf
  have hl := lv_entry ([.ref h0]) (n := 1) (Nat.le_of_ble_eq_true rfl)
  rw [lg_entry_eq]
  generalize (lg_sl ([.ref h0]) ++ List.replicate (1 - (lg_sl ([.ref h0])).length) Slot.unset).toArray = ls at hl ⊢
  have hl : lv_has ls 1 [(0, .ref h0)] := hl
  refine lv_aload_n hx hb dX5_begin_0 rfl (lv_at hl 0 rfl) ?_
  refine va_get (D := (dC, dI)) (ci := 5) (v := .ref td) (C := RX5) (T := TX5) (N := 12) hx hb hg inG5 hown hK.1 hP 0 rfl rfl 1 (by decide) (hg _ wt_107) (fun _ h9 => h9) rfl dX5_begin_1 ?_
  have hPc := hP.sub (ws' := [(td, .inr (9, [.int n, .int b, .int d, .ref a1, .ref a2, .ref a3, .ref a4, .ref a5, .ref a6])), (a3, .inl (G 0, 10, .inl f))]) [1, 2] rfl
  have hDc := hD.sub (ws' := [(td, .inr (9, [.int n, .int b, .int d, .ref a1, .ref a2, .ref a3, .ref a4, .ref a5, .ref a6])), (a3, .inl (G 0, 10, .inl f))]) [1, 2] (by decide) rfl
  have hFc := va_free (wc := [(td, .inr (9, [.int n, .int b, .int d, .ref a1, .ref a2, .ref a3, .ref a4, .ref a5, .ref a6])), (a3, .inl (G 0, 10, .inl f))]) hD hS hA [1, 2] rfl
  refine va_callv (va_runVN (As := []) (rest := []) ⟨hx, hb, hml, hown, hg⟩ (c_X9_clear l dC dI G _ td a1 a2 a3 a4 a5 a6 n b d f ) (kwVN hg hK mfX9_clear wn_370 ⟨Nat.le_of_ble_eq_true rfl, Nat.le_of_ble_eq_true rfl⟩) (preVW hK hPc hDc (ci := 9) rfl rfl) rfl rfl hl.1 rfl (lv_room (Nat.le_of_ble_eq_true rfl)) dX5_begin_4 ⟨Nat.le_of_ble_eq_true rfl, Nat.le_of_ble_eq_true rfl⟩) hS (fun q _ h => hFc q h) hFc (fun ur1 t H1 locs ht hvm w2 hB hz1 hk1 hS => ?_)
  obtain ⟨u3, rfl⟩ : ∃ z, z = ur1 := ⟨_, rfl⟩
  obtain ⟨hP1, hD1⟩ := hB
  rw [ht] at hP1
  obtain ⟨hP, hD⟩ := va_join (wr := [(h0, .inr (5, [.ref tp, .ref td, .int r0, .int r1, .int r2, .int r3, .int r4, .int r5, .int r6, .int r7, .int r8, .int r9]))]) (w1 := [(td, .inr (9, [.int 0, .int 0, .int 5, .ref a1, .ref a2, .ref a3, .ref a4, .ref a5, .ref a6])), (a3, .inl (G 0, 10, .inl u3))]) hP hD [1, 2] [0] rfl rfl (by decide) (by decide) hk1 hFc hP1 hD1
  generalize H1 = H at hP hS ⊢
  have hP : va_P (dC, dI) vwCl [(h0, .inr (5, [.ref tp, .ref td, .int r0, .int r1, .int r2, .int r3, .int r4, .int r5, .int r6, .int r7, .int r8, .int r9])), (td, .inr (9, [.int 0, .int 0, .int 5, .ref a1, .ref a2, .ref a3, .ref a4, .ref a5, .ref a6])), (a3, .inl (G 0, 10, .inl u3))] H := hP
  have hD : va_D A [(h0, .inr (5, [.ref tp, .ref td, .int r0, .int r1, .int r2, .int r3, .int r4, .int r5, .int r6, .int r7, .int r8, .int r9])), (td, .inr (9, [.int 0, .int 0, .int 5, .ref a1, .ref a2, .ref a3, .ref a4, .ref a5, .ref a6])), (a3, .inl (G 0, 10, .inl u3))] := hD
  refine lv_aload_n hx hb dX5_begin_7 rfl (lv_at hl 0 rfl) ?_
  refine lv_iconst (v := 0) hx hb dX5_begin_8 (by decide) ?_
  refine va_put (D := (dC, dI)) (ci := 5) (v := .int 0) (ty := .int) (C := RX5) (T := TX5) (N := 12) hx hb hg inG5 tyX5 tyX5_ok nmX5 hown hK.1 hP hD hS 0 rfl rfl 2 (by decide) (hg _ wt_109) (fun _ h9 => h9) rfl (by decide +kernel) rfl rfl (Nat.le_of_ble_eq_true rfl) dX5_begin_9 (fun H locs hP hD hS => ?_)
  have hP : va_P (dC, dI) vwCl [(h0, .inr (5, [.ref tp, .ref td, .int 0, .int r1, .int r2, .int r3, .int r4, .int r5, .int r6, .int r7, .int r8, .int r9])), (td, .inr (9, [.int 0, .int 0, .int 5, .ref a1, .ref a2, .ref a3, .ref a4, .ref a5, .ref a6])), (a3, .inl (G 0, 10, .inl u3))] H := hP
  have hD : va_D A [(h0, .inr (5, [.ref tp, .ref td, .int 0, .int r1, .int r2, .int r3, .int r4, .int r5, .int r6, .int r7, .int r8, .int r9])), (td, .inr (9, [.int 0, .int 0, .int 5, .ref a1, .ref a2, .ref a3, .ref a4, .ref a5, .ref a6])), (a3, .inl (G 0, 10, .inl u3))] := hD
  refine lv_aload_n hx hb dX5_begin_12 rfl (lv_at hl 0 rfl) ?_
  refine lv_iconst (v := 0) hx hb dX5_begin_13 (by decide) ?_
  refine va_put (D := (dC, dI)) (ci := 5) (v := .int 0) (ty := .int) (C := RX5) (T := TX5) (N := 12) hx hb hg inG5 tyX5 tyX5_ok nmX5 hown hK.1 hP hD hS 0 rfl rfl 3 (by decide) (hg _ wt_111) (fun _ h9 => h9) rfl (by decide +kernel) rfl rfl (Nat.le_of_ble_eq_true rfl) dX5_begin_14 (fun H locs hP hD hS => ?_)
  have hP : va_P (dC, dI) vwCl [(h0, .inr (5, [.ref tp, .ref td, .int 0, .int 0, .int r2, .int r3, .int r4, .int r5, .int r6, .int r7, .int r8, .int r9])), (td, .inr (9, [.int 0, .int 0, .int 5, .ref a1, .ref a2, .ref a3, .ref a4, .ref a5, .ref a6])), (a3, .inl (G 0, 10, .inl u3))] H := hP
  have hD : va_D A [(h0, .inr (5, [.ref tp, .ref td, .int 0, .int 0, .int r2, .int r3, .int r4, .int r5, .int r6, .int r7, .int r8, .int r9])), (td, .inr (9, [.int 0, .int 0, .int 5, .ref a1, .ref a2, .ref a3, .ref a4, .ref a5, .ref a6])), (a3, .inl (G 0, 10, .inl u3))] := hD
  refine lv_aload_n hx hb dX5_begin_17 rfl (lv_at hl 0 rfl) ?_
  refine lv_iconst (v := 0) hx hb dX5_begin_18 (by decide) ?_
  refine va_put (D := (dC, dI)) (ci := 5) (v := .int 0) (ty := .int) (C := RX5) (T := TX5) (N := 12) hx hb hg inG5 tyX5 tyX5_ok nmX5 hown hK.1 hP hD hS 0 rfl rfl 4 (by decide) (hg _ wt_113) (fun _ h9 => h9) rfl (by decide +kernel) rfl rfl (Nat.le_of_ble_eq_true rfl) dX5_begin_19 (fun H locs hP hD hS => ?_)
  have hP : va_P (dC, dI) vwCl [(h0, .inr (5, [.ref tp, .ref td, .int 0, .int 0, .int 0, .int r3, .int r4, .int r5, .int r6, .int r7, .int r8, .int r9])), (td, .inr (9, [.int 0, .int 0, .int 5, .ref a1, .ref a2, .ref a3, .ref a4, .ref a5, .ref a6])), (a3, .inl (G 0, 10, .inl u3))] H := hP
  have hD : va_D A [(h0, .inr (5, [.ref tp, .ref td, .int 0, .int 0, .int 0, .int r3, .int r4, .int r5, .int r6, .int r7, .int r8, .int r9])), (td, .inr (9, [.int 0, .int 0, .int 5, .ref a1, .ref a2, .ref a3, .ref a4, .ref a5, .ref a6])), (a3, .inl (G 0, 10, .inl u3))] := hD
  refine lv_aload_n hx hb dX5_begin_22 rfl (lv_at hl 0 rfl) ?_
  refine lv_iconst (v := 0) hx hb dX5_begin_23 (by decide) ?_
  refine va_put (D := (dC, dI)) (ci := 5) (v := .int 0) (ty := .int) (C := RX5) (T := TX5) (N := 12) hx hb hg inG5 tyX5 tyX5_ok nmX5 hown hK.1 hP hD hS 0 rfl rfl 7 (by decide) (hg _ wt_117) (fun _ h9 => h9) rfl (by decide +kernel) rfl rfl (Nat.le_of_ble_eq_true rfl) dX5_begin_24 (fun H locs hP hD hS => ?_)
  have hP : va_P (dC, dI) vwCl [(h0, .inr (5, [.ref tp, .ref td, .int 0, .int 0, .int 0, .int r3, .int r4, .int 0, .int r6, .int r7, .int r8, .int r9])), (td, .inr (9, [.int 0, .int 0, .int 5, .ref a1, .ref a2, .ref a3, .ref a4, .ref a5, .ref a6])), (a3, .inl (G 0, 10, .inl u3))] H := hP
  have hD : va_D A [(h0, .inr (5, [.ref tp, .ref td, .int 0, .int 0, .int 0, .int r3, .int r4, .int 0, .int r6, .int r7, .int r8, .int r9])), (td, .inr (9, [.int 0, .int 0, .int 5, .ref a1, .ref a2, .ref a3, .ref a4, .ref a5, .ref a6])), (a3, .inl (G 0, 10, .inl u3))] := hD
  refine lv_aload_n hx hb dX5_begin_27 rfl (lv_at hl 0 rfl) ?_
  refine lv_iconst (v := 0) hx hb dX5_begin_28 (by decide) ?_
  refine va_put (D := (dC, dI)) (ci := 5) (v := .int 0) (ty := .boolean) (C := RX5) (T := TX5) (N := 12) hx hb hg inG5 tyX5 tyX5_ok nmX5 hown hK.1 hP hD hS 0 rfl rfl 8 (by decide) (hg _ wt_118) (fun _ h9 => h9) rfl (by decide +kernel) rfl rfl (Nat.le_of_ble_eq_true rfl) dX5_begin_29 (fun H locs hP hD hS => ?_)
  have hP : va_P (dC, dI) vwCl [(h0, .inr (5, [.ref tp, .ref td, .int 0, .int 0, .int 0, .int r3, .int r4, .int 0, .int 0, .int r7, .int r8, .int r9])), (td, .inr (9, [.int 0, .int 0, .int 5, .ref a1, .ref a2, .ref a3, .ref a4, .ref a5, .ref a6])), (a3, .inl (G 0, 10, .inl u3))] H := hP
  have hD : va_D A [(h0, .inr (5, [.ref tp, .ref td, .int 0, .int 0, .int 0, .int r3, .int r4, .int 0, .int 0, .int r7, .int r8, .int r9])), (td, .inr (9, [.int 0, .int 0, .int 5, .ref a1, .ref a2, .ref a3, .ref a4, .ref a5, .ref a6])), (a3, .inl (G 0, 10, .inl u3))] := hD
  refine lv_aload_n hx hb dX5_begin_32 rfl (lv_at hl 0 rfl) ?_
  refine lv_iconst (v := 0) hx hb dX5_begin_33 (by decide) ?_
  refine va_put (D := (dC, dI)) (ci := 5) (v := .int 0) (ty := .int) (C := RX5) (T := TX5) (N := 12) hx hb hg inG5 tyX5 tyX5_ok nmX5 hown hK.1 hP hD hS 0 rfl rfl 9 (by decide) (hg _ wt_119) (fun _ h9 => h9) rfl (by decide +kernel) rfl rfl (Nat.le_of_ble_eq_true rfl) dX5_begin_34 (fun H locs hP hD hS => ?_)
  have hP : va_P (dC, dI) vwCl [(h0, .inr (5, [.ref tp, .ref td, .int 0, .int 0, .int 0, .int r3, .int r4, .int 0, .int 0, .int 0, .int r8, .int r9])), (td, .inr (9, [.int 0, .int 0, .int 5, .ref a1, .ref a2, .ref a3, .ref a4, .ref a5, .ref a6])), (a3, .inl (G 0, 10, .inl u3))] H := hP
  have hD : va_D A [(h0, .inr (5, [.ref tp, .ref td, .int 0, .int 0, .int 0, .int r3, .int r4, .int 0, .int 0, .int 0, .int r8, .int r9])), (td, .inr (9, [.int 0, .int 0, .int 5, .ref a1, .ref a2, .ref a3, .ref a4, .ref a5, .ref a6])), (a3, .inl (G 0, 10, .inl u3))] := hD
  refine lv_aload_n hx hb dX5_begin_37 rfl (lv_at hl 0 rfl) ?_
  refine lv_bipush (v := (-4)) hx hb dX5_begin_38 (by decide) ?_
  refine va_put (D := (dC, dI)) (ci := 5) (v := .int (-4)) (ty := .int) (C := RX5) (T := TX5) (N := 12) hx hb hg inG5 tyX5 tyX5_ok nmX5 hown hK.1 hP hD hS 0 rfl rfl 10 (by decide) (hg _ wt_120) (fun _ h9 => h9) rfl (by decide +kernel) rfl rfl (Nat.le_of_ble_eq_true rfl) dX5_begin_40 (fun H locs hP hD hS => ?_)
  have hP : va_P (dC, dI) vwCl [(h0, .inr (5, [.ref tp, .ref td, .int 0, .int 0, .int 0, .int r3, .int r4, .int 0, .int 0, .int 0, .int (-4), .int r9])), (td, .inr (9, [.int 0, .int 0, .int 5, .ref a1, .ref a2, .ref a3, .ref a4, .ref a5, .ref a6])), (a3, .inl (G 0, 10, .inl u3))] H := hP
  have hD : va_D A [(h0, .inr (5, [.ref tp, .ref td, .int 0, .int 0, .int 0, .int r3, .int r4, .int 0, .int 0, .int 0, .int (-4), .int r9])), (td, .inr (9, [.int 0, .int 0, .int 5, .ref a1, .ref a2, .ref a3, .ref a4, .ref a5, .ref a6])), (a3, .inl (G 0, 10, .inl u3))] := hD
  refine lv_aload_n hx hb dX5_begin_43 rfl (lv_at hl 0 rfl) ?_
  refine lv_bipush (v := (-4)) hx hb dX5_begin_44 (by decide) ?_
  refine va_put (D := (dC, dI)) (ci := 5) (v := .int (-4)) (ty := .int) (C := RX5) (T := TX5) (N := 12) hx hb hg inG5 tyX5 tyX5_ok nmX5 hown hK.1 hP hD hS 0 rfl rfl 11 (by decide) (hg _ wt_121) (fun _ h9 => h9) rfl (by decide +kernel) rfl rfl (Nat.le_of_ble_eq_true rfl) dX5_begin_46 (fun H locs hP hD hS => ?_)
  have hP : va_P (dC, dI) vwCl [(h0, .inr (5, [.ref tp, .ref td, .int 0, .int 0, .int 0, .int r3, .int r4, .int 0, .int 0, .int 0, .int (-4), .int (-4)])), (td, .inr (9, [.int 0, .int 0, .int 5, .ref a1, .ref a2, .ref a3, .ref a4, .ref a5, .ref a6])), (a3, .inl (G 0, 10, .inl u3))] H := hP
  have hD : va_D A [(h0, .inr (5, [.ref tp, .ref td, .int 0, .int 0, .int 0, .int r3, .int r4, .int 0, .int 0, .int 0, .int (-4), .int (-4)])), (td, .inr (9, [.int 0, .int 0, .int 5, .ref a1, .ref a2, .ref a3, .ref a4, .ref a5, .ref a6])), (a3, .inl (G 0, 10, .inl u3))] := hD
  have hP9 := hP.sub (ws' := [(h0, .inr (5, [.ref tp, .ref td, .int 0, .int 0, .int 0, .int r3, .int r4, .int 0, .int 0, .int 0, .int (-4), .int (-4)])), (td, .inr (9, [.int 0, .int 0, .int 5, .ref a1, .ref a2, .ref a3, .ref a4, .ref a5, .ref a6])), (a3, .inl (G 0, 10, .inl u3))]) [0, 1, 2] rfl
  have hD9 := hD.sub (ws' := [(h0, .inr (5, [.ref tp, .ref td, .int 0, .int 0, .int 0, .int r3, .int r4, .int 0, .int 0, .int 0, .int (-4), .int (-4)])), (td, .inr (9, [.int 0, .int 0, .int 5, .ref a1, .ref a2, .ref a3, .ref a4, .ref a5, .ref a6])), (a3, .inl (G 0, 10, .inl u3))]) [0, 1, 2] (by decide) rfl
  refine W.widen (k := 0) (n := 0) (by omega) (by omega) ?_
  exact W.vret hx hb hr (fun t ht hW => ⟨⟨u3, rfl, trivial, ⟨by rw [ht]; exact hP9, hD9⟩⟩, hS.F ht⟩) hS.2.2 dX5_begin_49

set_option maxHeartbeats 4000000 in
set_option maxRecDepth 100000 in
theorem c_X5_nextToken (l : Launch) (dC : Nat → ClassId) (dI : Nat → Nat → Nat) (G : Nat → ClassId) (sz : Nat) (h0 tp td ta : Nat) (r3 r4 : Int32)  : Met l yX5_nextToken (Cond.code yX5_nextToken cX5_nextToken 2 (some .boolean) :: GT) ({ frames := 1, cells := 0, slots := 0, locals := 24 } : Room) (PcW [.ref h0] dC dI G [(h0, .inr (5, [.ref tp, .ref td, .int 0, .int 0, .int 0, .int r3, .int r4, .int 0, .int 0, .int 0, .int (-4), .int (-4)])), (tp, .inr (7, [.int 0, .ref ta]))] sz) (va_Qi (fun (r : Int32) (u : Unit) => match u with | _ => (r = 1) ∧ True) (fun (u : Unit) (t : State) => match u with | _ => va_P (dC, dI) vwCl [(h0, .inr (5, [.ref tp, .ref td, .int 0, .int 0, .int 0, .int 0, .int 0, .int 0, .int 0, .int 0, .int (-4), .int (-4)])), (tp, .inr (7, [.int 0, .ref ta]))] t.heap ∧ va_D (va_A [(h0, .inr (5, [.ref tp, .ref td, .int 0, .int 0, .int 0, .int r3, .int r4, .int 0, .int 0, .int 0, .int (-4), .int (-4)])), (tp, .inr (7, [.int 0, .ref ta]))] sz) [(h0, .inr (5, [.ref tp, .ref td, .int 0, .int 0, .int 0, .int 0, .int 0, .int 0, .int 0, .int 0, .int (-4), .int (-4)])), (tp, .inr (7, [.int 0, .ref ta]))]) (va_A [(h0, .inr (5, [.ref tp, .ref td, .int 0, .int 0, .int 0, .int r3, .int r4, .int 0, .int 0, .int 0, .int (-4), .int (-4)])), (tp, .inr (7, [.int 0, .ref ta]))] sz)) 0 0 (va_A [(h0, .inr (5, [.ref tp, .ref td, .int 0, .int 0, .int 0, .int r3, .int r4, .int 0, .int 0, .int 0, .int (-4), .int (-4)])), (tp, .inr (7, [.int 0, .ref ta]))] sz) := by
  refine Met.ofW (cc := cX5_nextToken) (maxL := 2) (ret := (some .boolean)) (by decide) rfl ?_
  intro p e s m args below meth c s₁ B hml hv
  obtain ⟨rfl, hsz, hP, hK, hD0⟩ := hv
  have hx := B.exec
  have hb := B.bytes
  have hr := B.returns
  have hg : ∀ w ∈ GT, w.before ([.ref h0] : List Value).toArray s = true := fun w h => atoms_spec (ws := Cond.code yX5_nextToken cX5_nextToken 2 (some .boolean) :: GT) B.pre w (List.mem_cons_of_mem _ h)
  have hown : s.vm.findClass RX5 = some m.cls := findClass_of_methodNamed B.named
  have hlocks := B.notSynchronized
  subst hsz
  have hD := hD0.self (sz := s.heap.size)
  generalize hAe : va_A [(h0, .inr (5, [.ref tp, .ref td, .int 0, .int 0, .int 0, .int r3, .int r4, .int 0, .int 0, .int 0, .int (-4), .int (-4)])), (tp, .inr (7, [.int 0, .ref ta]))] s.heap.size = A at hD ⊢
  have hA : ∀ q : Nat, s.heap.size ≤ q → A q := fun q h => by rw [← hAe]; exact Or.inr h
  have hS : va_S A s.heap s.heap [] := va_S.rf
  have hl := lv_entry ([.ref h0]) (n := 2) (Nat.le_of_ble_eq_true rfl)
  rw [lg_entry_eq]
  generalize (lg_sl ([.ref h0]) ++ List.replicate (2 - (lg_sl ([.ref h0])).length) Slot.unset).toArray = ls at hl ⊢
  have hl : lv_has ls 2 [(0, .ref h0)] := hl
  refine lv_aload_n hx hb dX5_nextToken_0 rfl (lv_at hl 0 rfl) ?_
  refine lv_aload_n hx hb dX5_nextToken_1 rfl (lv_at hl 0 rfl) ?_
  refine va_get (D := (dC, dI)) (ci := 5) (v := .ref tp) (C := RX5) (T := TX5) (N := 12) hx hb hg inG5 hown hK.1 hP 0 rfl rfl 0 (by decide) (hg _ wt_105) (fun _ h9 => h9) rfl dX5_nextToken_2 ?_
  refine lv_aload_n hx hb dX5_nextToken_5 rfl (lv_at hl 0 rfl) ?_
  refine va_get (D := (dC, dI)) (ci := 5) (v := .int 0) (C := RX5) (T := TX5) (N := 12) hx hb hg inG5 hown hK.1 hP 0 rfl rfl 7 (by decide) (hg _ wt_117) (fun _ h9 => h9) rfl dX5_nextToken_6 ?_
  refine lv_bipush (v := 32) hx hb dX5_nextToken_9 (by decide) ?_
  refine lv_bipush (v := 32) hx hb dX5_nextToken_11 (by decide) ?_
  have hPc := hP.sub (ws' := [(tp, .inr (7, [.int 0, .ref ta]))]) [1] rfl
  refine va_calli (va_runVN (As := [.int 0, .int 32, .int 32]) (rest := [.ref h0]) ⟨hx, hb, hml, hown, hg⟩ (c_X7_pastAll l dC dI G _ tp ta 32 32 ) (kwVN hg hK mfX7_pastAll wn_378 ⟨Nat.le_of_ble_eq_true rfl, Nat.le_of_ble_eq_true rfl⟩) (preVR hK hPc (ci := 7) rfl rfl) rfl rfl hl.1 rfl (lv_room (Nat.le_of_ble_eq_true rfl)) dX5_nextToken_13 ⟨Nat.le_of_ble_eq_true rfl, Nat.le_of_ble_eq_true rfl⟩) hS (fun q h1 h2 => absurd h2 (Nat.not_le.mpr h1)) (fun q h => hA q (Nat.le_trans hS.1 h)) (fun r1 ur1 t H1 locs ht hvm w2 hB hz1 hk1 hS => ?_)
  have hP := keepR hP hk1
  obtain ⟨w2, w2x⟩ := w2
  subst w2
  refine va_put (D := (dC, dI)) (ci := 5) (v := .int 0) (ty := .int) (C := RX5) (T := TX5) (N := 12) hx hb hg inG5 tyX5 tyX5_ok nmX5 hown hK.1 hP hD hS 0 rfl rfl 6 (by decide) (hg _ wt_116) (fun _ h9 => h9) rfl (by decide +kernel) rfl rfl (Nat.le_of_ble_eq_true rfl) dX5_nextToken_16 (fun H locs hP hD hS => ?_)
  have hP : va_P (dC, dI) vwCl [(h0, .inr (5, [.ref tp, .ref td, .int 0, .int 0, .int 0, .int r3, .int 0, .int 0, .int 0, .int 0, .int (-4), .int (-4)])), (tp, .inr (7, [.int 0, .ref ta]))] H := hP
  have hD : va_D A [(h0, .inr (5, [.ref tp, .ref td, .int 0, .int 0, .int 0, .int r3, .int 0, .int 0, .int 0, .int 0, .int (-4), .int (-4)])), (tp, .inr (7, [.int 0, .ref ta]))] := hD
  refine lv_aload_n hx hb dX5_nextToken_19 rfl (lv_at hl 0 rfl) ?_
  refine lv_aload_n hx hb dX5_nextToken_20 rfl (lv_at hl 0 rfl) ?_
  refine va_get (D := (dC, dI)) (ci := 5) (v := .int 0) (C := RX5) (T := TX5) (N := 12) hx hb hg inG5 hown hK.1 hP 0 rfl rfl 6 (by decide) (hg _ wt_116) (fun _ h9 => h9) rfl dX5_nextToken_21 ?_
  refine va_put (D := (dC, dI)) (ci := 5) (v := .int 0) (ty := .int) (C := RX5) (T := TX5) (N := 12) hx hb hg inG5 tyX5 tyX5_ok nmX5 hown hK.1 hP hD hS 0 rfl rfl 7 (by decide) (hg _ wt_117) (fun _ h9 => h9) rfl (by decide +kernel) rfl rfl (Nat.le_of_ble_eq_true rfl) dX5_nextToken_24 (fun H locs hP hD hS => ?_)
  have hP : va_P (dC, dI) vwCl [(h0, .inr (5, [.ref tp, .ref td, .int 0, .int 0, .int 0, .int r3, .int 0, .int 0, .int 0, .int 0, .int (-4), .int (-4)])), (tp, .inr (7, [.int 0, .ref ta]))] H := hP
  have hD : va_D A [(h0, .inr (5, [.ref tp, .ref td, .int 0, .int 0, .int 0, .int r3, .int 0, .int 0, .int 0, .int 0, .int (-4), .int (-4)])), (tp, .inr (7, [.int 0, .ref ta]))] := hD
  refine lv_aload_n hx hb dX5_nextToken_27 rfl (lv_at hl 0 rfl) ?_
  refine va_get (D := (dC, dI)) (ci := 5) (v := .ref tp) (C := RX5) (T := TX5) (N := 12) hx hb hg inG5 hown hK.1 hP 0 rfl rfl 0 (by decide) (hg _ wt_105) (fun _ h9 => h9) rfl dX5_nextToken_28 ?_
  refine lv_aload_n hx hb dX5_nextToken_31 rfl (lv_at hl 0 rfl) ?_
  refine va_get (D := (dC, dI)) (ci := 5) (v := .int 0) (C := RX5) (T := TX5) (N := 12) hx hb hg inG5 hown hK.1 hP 0 rfl rfl 6 (by decide) (hg _ wt_116) (fun _ h9 => h9) rfl dX5_nextToken_32 ?_
  have hPc := hP.sub (ws' := [(tp, .inr (7, [.int 0, .ref ta]))]) [1] rfl
  refine va_calli (va_runVN (As := [.int 0]) (rest := []) ⟨hx, hb, hml, hown, hg⟩ (c_X7_byteAt l dC dI G _ tp ta ) (kwVN hg hK mfX7_byteAt wn_382 ⟨Nat.le_of_ble_eq_true rfl, Nat.le_of_ble_eq_true rfl⟩) (preVR hK hPc (ci := 7) rfl rfl) rfl rfl hl.1 rfl (lv_room (Nat.le_of_ble_eq_true rfl)) dX5_nextToken_35 ⟨Nat.le_of_ble_eq_true rfl, Nat.le_of_ble_eq_true rfl⟩) hS (fun q h1 h2 => absurd h2 (Nat.not_le.mpr h1)) (fun q h => hA q (Nat.le_trans hS.1 h)) (fun r3 ur3 t H1 locs ht hvm w4 hB hz1 hk1 hS => ?_)
  have hP := keepR hP hk1
  obtain ⟨w4, w4x⟩ := w4
  subst w4
  refine lv_istore_n (lv' := [(1, .int 0), (0, .ref h0)]) hx hb dX5_nextToken_38 rfl hl (by decide) rfl (fun ls hl => ?_)
  refine lv_aload_n hx hb dX5_nextToken_39 rfl (lv_at hl 1 rfl) ?_
  refine va_get (D := (dC, dI)) (ci := 5) (v := .int 0) (C := RX5) (T := TX5) (N := 12) hx hb hg inG5 hown hK.1 hP 0 rfl rfl 6 (by decide) (hg _ wt_116) (fun _ h9 => h9) rfl dX5_nextToken_40 ?_
  refine lv_aload_n hx hb dX5_nextToken_43 rfl (lv_at hl 1 rfl) ?_
  refine va_get (D := (dC, dI)) (ci := 5) (v := .ref tp) (C := RX5) (T := TX5) (N := 12) hx hb hg inG5 hown hK.1 hP 0 rfl rfl 0 (by decide) (hg _ wt_105) (fun _ h9 => h9) rfl dX5_nextToken_44 ?_
  refine va_getN (D := (dC, dI)) (ci := 7) (v := .int 0) (C := RX7) (T := TX7) (N := 2) hx hb hg inG7 hown hK.1 hP 1 rfl rfl 0 (by decide) (hK.nest wn_41) (fun _ h9 => h9) rfl dX5_nextToken_47 ?_
  refine lv_icmp_lt (tgt := 61) hx hb dX5_nextToken_50 (by decide) (fun c5 => ?_) (fun c5 => ?_)
  · skip
    exact absurd c5 (by decide)
  · skip
    refine lv_aload_n hx hb dX5_nextToken_53 rfl (lv_at hl 1 rfl) ?_
    refine lv_iconst (v := 0) hx hb dX5_nextToken_54 (by decide) ?_
    refine va_put (D := (dC, dI)) (ci := 5) (v := .int 0) (ty := .int) (C := RX5) (T := TX5) (N := 12) hx hb hg inG5 tyX5 tyX5_ok nmX5 hown hK.1 hP hD hS 0 rfl rfl 5 (by decide) (hg _ wt_115) (fun _ h9 => h9) rfl (by decide +kernel) rfl rfl (Nat.le_of_ble_eq_true rfl) dX5_nextToken_55 (fun H locs hP hD hS => ?_)
    have hP : va_P (dC, dI) vwCl [(h0, .inr (5, [.ref tp, .ref td, .int 0, .int 0, .int 0, .int 0, .int 0, .int 0, .int 0, .int 0, .int (-4), .int (-4)])), (tp, .inr (7, [.int 0, .ref ta]))] H := hP
    have hD : va_D A [(h0, .inr (5, [.ref tp, .ref td, .int 0, .int 0, .int 0, .int 0, .int 0, .int 0, .int 0, .int 0, .int (-4), .int (-4)])), (tp, .inr (7, [.int 0, .ref ta]))] := hD
    refine lv_goto (tgt := 201) hx hb dX5_nextToken_58 (by decide) ?_
    refine lv_iconst (v := 1) hx hb dX5_nextToken_201 (by decide) ?_
    have hpost : (1 : Int32) = 1 := by
      have t_c5 := nltI c5
      have : (0 : Int32).toInt = 0 := (by decide)
      first | rfl | ((repeat' split) <;> first | rfl | omega)
    have hP9 := hP.sub (ws' := [(h0, .inr (5, [.ref tp, .ref td, .int 0, .int 0, .int 0, .int 0, .int 0, .int 0, .int 0, .int 0, .int (-4), .int (-4)])), (tp, .inr (7, [.int 0, .ref ta]))]) [0, 1] rfl
    have hD9 := hD.sub (ws' := [(h0, .inr (5, [.ref tp, .ref td, .int 0, .int 0, .int 0, .int 0, .int 0, .int 0, .int 0, .int 0, .int (-4), .int (-4)])), (tp, .inr (7, [.int 0, .ref ta]))]) [0, 1] (by decide) rfl
    refine W.widen (k := 0) (n := 0) (by omega) (by omega) ?_
    exact W.zret (v := 1) hx hb hr (by first | rfl | decide | exact rfl) (fun t ht hW => ⟨⟨1, (), rfl, ⟨hpost, trivial⟩, ⟨by rw [ht]; exact hP9, hD9⟩⟩, hS.F ht⟩) hS.2.2 dX5_nextToken_202

set_option maxHeartbeats 4000000 in
set_option maxRecDepth 100000 in
theorem c_X5_lookBehindAll (l : Launch) (dC : Nat → ClassId) (dI : Nat → Nat → Nat) (G : Nat → ClassId) (sz : Nat) (h0 tp td a1 a2 a3 a4 a5 a6 : Nat)  : Met l yX5_lookBehindAll (Cond.code yX5_lookBehindAll cX5_lookBehindAll 1 none :: GT) ({ frames := 0, cells := 0, slots := 0, locals := 0 } : Room) (PcR [.ref h0] dC dI G [(h0, .inr (5, [.ref tp, .ref td, .int 0, .int 0, .int 0, .int 0, .int 0, .int 0, .int 0, .int 0, .int (-4), .int (-4)])), (td, .inr (9, [.int 0, .int 0, .int 5, .ref a1, .ref a2, .ref a3, .ref a4, .ref a5, .ref a6]))] sz) (va_Qv (fun (u : Unit) => match u with | _ => True) (fun _ _ => True) (fun q : Nat => sz ≤ q)) 0 0 (fun q : Nat => sz ≤ q) := by
  refine Met.ofW (cc := cX5_lookBehindAll) (maxL := 1) (ret := none) (by decide) rfl ?_
  intro p e s m args below meth c s₁ B hml hv
  obtain ⟨rfl, hsz, hP, hK⟩ := hv
  have hx := B.exec
  have hb := B.bytes
  have hr := B.returns
  have hg : ∀ w ∈ GT, w.before ([.ref h0] : List Value).toArray s = true := fun w h => atoms_spec (ws := Cond.code yX5_lookBehindAll cX5_lookBehindAll 1 none :: GT) B.pre w (List.mem_cons_of_mem _ h)
  have hown : s.vm.findClass RX5 = some m.cls := findClass_of_methodNamed B.named
  have hlocks := B.notSynchronized
  subst hsz
  have hA : ∀ q : Nat, s.heap.size ≤ q → (fun q : Nat => s.heap.size ≤ q) q := fun _ h => h
  have hS : va_S (fun q : Nat => s.heap.size ≤ q) s.heap s.heap [] := va_S.rf
  have hl := lv_entry ([.ref h0]) (n := 1) (Nat.le_of_ble_eq_true rfl)
  rw [lg_entry_eq]
  generalize (lg_sl ([.ref h0]) ++ List.replicate (1 - (lg_sl ([.ref h0])).length) Slot.unset).toArray = ls at hl ⊢
  have hl : lv_has ls 1 [(0, .ref h0)] := hl
  refine lv_aload_n hx hb dX5_lookBehindAll_0 rfl (lv_at hl 0 rfl) ?_
  refine va_get (D := (dC, dI)) (ci := 5) (v := .int (-4)) (C := RX5) (T := TX5) (N := 12) hx hb hg inG5 hown hK.1 hP 0 rfl rfl 10 (by decide) (hg _ wt_120) (fun _ h9 => h9) rfl dX5_lookBehindAll_1 ?_
  refine lv_aload_n hx hb dX5_lookBehindAll_4 rfl (lv_at hl 0 rfl) ?_
  refine va_get (D := (dC, dI)) (ci := 5) (v := .ref td) (C := RX5) (T := TX5) (N := 12) hx hb hg inG5 hown hK.1 hP 0 rfl rfl 1 (by decide) (hg _ wt_107) (fun _ h9 => h9) rfl dX5_lookBehindAll_5 ?_
  refine va_getN (D := (dC, dI)) (ci := 9) (v := .int 0) (C := RX9) (T := TX9) (N := 9) hx hb hg inG9 hown hK.1 hP 1 rfl rfl 0 (by decide) (hK.nest wn_61) (fun _ h9 => h9) rfl dX5_lookBehindAll_8 ?_
  refine lv_icmp_ge (tgt := 28) hx hb dX5_lookBehindAll_11 (by decide) (fun c1 => ?_) (fun c1 => ?_)
  · skip
    exact absurd c1 (by decide)
  · skip
    refine lv_aload_n hx hb dX5_lookBehindAll_14 rfl (lv_at hl 0 rfl) ?_
    refine va_get (D := (dC, dI)) (ci := 5) (v := .int (-4)) (C := RX5) (T := TX5) (N := 12) hx hb hg inG5 hown hK.1 hP 0 rfl rfl 11 (by decide) (hg _ wt_121) (fun _ h9 => h9) rfl dX5_lookBehindAll_15 ?_
    refine lv_aload_n hx hb dX5_lookBehindAll_18 rfl (lv_at hl 0 rfl) ?_
    refine va_get (D := (dC, dI)) (ci := 5) (v := .ref td) (C := RX5) (T := TX5) (N := 12) hx hb hg inG5 hown hK.1 hP 0 rfl rfl 1 (by decide) (hg _ wt_107) (fun _ h9 => h9) rfl dX5_lookBehindAll_19 ?_
    refine va_getN (D := (dC, dI)) (ci := 9) (v := .int 0) (C := RX9) (T := TX9) (N := 9) hx hb hg inG9 hown hK.1 hP 1 rfl rfl 1 (by decide) (hK.nest wn_65) (fun _ h9 => h9) rfl dX5_lookBehindAll_22 ?_
    refine lv_icmp_lt (tgt := 45) hx hb dX5_lookBehindAll_25 (by decide) (fun c2 => ?_) (fun c2 => ?_)
    · skip
      refine lv_aload_n hx hb dX5_lookBehindAll_45 rfl (lv_at hl 0 rfl) ?_
      refine va_get (D := (dC, dI)) (ci := 5) (v := .ref td) (C := RX5) (T := TX5) (N := 12) hx hb hg inG5 hown hK.1 hP 0 rfl rfl 1 (by decide) (hg _ wt_107) (fun _ h9 => h9) rfl dX5_lookBehindAll_46 ?_
      refine va_getN (D := (dC, dI)) (ci := 9) (v := .int 0) (C := RX9) (T := TX9) (N := 9) hx hb hg inG9 hown hK.1 hP 1 rfl rfl 0 (by decide) (hK.nest wn_61) (fun _ h9 => h9) rfl dX5_lookBehindAll_49 ?_
      refine lv_if_le (tgt := 79) hx hb dX5_lookBehindAll_52 (by decide) (fun c3 => ?_) (fun c3 => ?_)
      · skip
        refine W.widen (k := 0) (n := 0) (by omega) (by omega) ?_
        exact W.vret hx hb hr (fun t ht hW => ⟨⟨(), rfl, trivial, trivial⟩, hS.F ht⟩) hS.2.2 dX5_lookBehindAll_79
      · skip
        exact absurd c3 (by decide)
    · skip
      exact absurd c2 (by decide)

set_option maxHeartbeats 4000000 in
set_option maxRecDepth 100000 in
theorem c_X5_readAll (l : Launch) (dC : Nat → ClassId) (dI : Nat → Nat → Nat) (G : Nat → ClassId) (sz : Nat) (h0 tp td ta a1 a2 a3 a4 a5 a6 : Nat) (f : Nat → Int32)  : Met l yX5_readAll (Cond.code yX5_readAll cX5_readAll 2 none :: GT) ({ frames := 2, cells := 0, slots := 0, locals := 45 } : Room) (PcW [.ref h0] dC dI G [(h0, .inr (5, [.ref tp, .ref td, .int 0, .int 0, .int 0, .int 0, .int 0, .int 0, .int 0, .int 0, .int 0, .int 0])), (tp, .inr (7, [.int 0, .ref ta])), (td, .inr (9, [.int 0, .int 0, .int 5, .ref a1, .ref a2, .ref a3, .ref a4, .ref a5, .ref a6])), (a3, .inl (G 0, 10, .inl f))] sz) (va_Qv (fun (u : Nat → Int32) => match u with | u => True) (fun (u : Nat → Int32) (t : State) => match u with | u => va_P (dC, dI) vwCl [(h0, .inr (5, [.ref tp, .ref td, .int 0, .int 0, .int 0, .int 0, .int 0, .int 0, .int 0, .int 0, .int (-4), .int (-4)])), (tp, .inr (7, [.int 0, .ref ta])), (td, .inr (9, [.int 0, .int 0, .int 5, .ref a1, .ref a2, .ref a3, .ref a4, .ref a5, .ref a6])), (a3, .inl (G 0, 10, .inl u))] t.heap ∧ va_D (va_A [(h0, .inr (5, [.ref tp, .ref td, .int 0, .int 0, .int 0, .int 0, .int 0, .int 0, .int 0, .int 0, .int 0, .int 0])), (tp, .inr (7, [.int 0, .ref ta])), (td, .inr (9, [.int 0, .int 0, .int 5, .ref a1, .ref a2, .ref a3, .ref a4, .ref a5, .ref a6])), (a3, .inl (G 0, 10, .inl f))] sz) [(h0, .inr (5, [.ref tp, .ref td, .int 0, .int 0, .int 0, .int 0, .int 0, .int 0, .int 0, .int 0, .int (-4), .int (-4)])), (tp, .inr (7, [.int 0, .ref ta])), (td, .inr (9, [.int 0, .int 0, .int 5, .ref a1, .ref a2, .ref a3, .ref a4, .ref a5, .ref a6])), (a3, .inl (G 0, 10, .inl u))]) (va_A [(h0, .inr (5, [.ref tp, .ref td, .int 0, .int 0, .int 0, .int 0, .int 0, .int 0, .int 0, .int 0, .int 0, .int 0])), (tp, .inr (7, [.int 0, .ref ta])), (td, .inr (9, [.int 0, .int 0, .int 5, .ref a1, .ref a2, .ref a3, .ref a4, .ref a5, .ref a6])), (a3, .inl (G 0, 10, .inl f))] sz)) 0 0 (va_A [(h0, .inr (5, [.ref tp, .ref td, .int 0, .int 0, .int 0, .int 0, .int 0, .int 0, .int 0, .int 0, .int 0, .int 0])), (tp, .inr (7, [.int 0, .ref ta])), (td, .inr (9, [.int 0, .int 0, .int 5, .ref a1, .ref a2, .ref a3, .ref a4, .ref a5, .ref a6])), (a3, .inl (G 0, 10, .inl f))] sz) := by
  refine Met.ofW (cc := cX5_readAll) (maxL := 2) (ret := none) (by decide) rfl ?_
  intro p e s m args below meth c s₁ B hml hv
  obtain ⟨rfl, hsz, hP, hK, hD0⟩ := hv
  have hx := B.exec
  have hb := B.bytes
  have hr := B.returns
  have hg : ∀ w ∈ GT, w.before ([.ref h0] : List Value).toArray s = true := fun w h => atoms_spec (ws := Cond.code yX5_readAll cX5_readAll 2 none :: GT) B.pre w (List.mem_cons_of_mem _ h)
  have hown : s.vm.findClass RX5 = some m.cls := findClass_of_methodNamed B.named
  have hlocks := B.notSynchronized
  subst hsz
  have hD := hD0.self (sz := s.heap.size)
  generalize hAe : va_A [(h0, .inr (5, [.ref tp, .ref td, .int 0, .int 0, .int 0, .int 0, .int 0, .int 0, .int 0, .int 0, .int 0, .int 0])), (tp, .inr (7, [.int 0, .ref ta])), (td, .inr (9, [.int 0, .int 0, .int 5, .ref a1, .ref a2, .ref a3, .ref a4, .ref a5, .ref a6])), (a3, .inl (G 0, 10, .inl f))] s.heap.size = A at hD ⊢
  have hA : ∀ q : Nat, s.heap.size ≤ q → A q := fun q h => by rw [← hAe]; exact Or.inr h
  have hS : va_S A s.heap s.heap [] := va_S.rf
  have hl := lv_entry ([.ref h0]) (n := 2) (Nat.le_of_ble_eq_true rfl)
  rw [lg_entry_eq]
  generalize (lg_sl ([.ref h0]) ++ List.replicate (2 - (lg_sl ([.ref h0])).length) Slot.unset).toArray = ls at hl ⊢
  have hl : lv_has ls 2 [(0, .ref h0)] := hl
  refine lv_aload_n hx hb dX5_readAll_0 rfl (lv_at hl 0 rfl) ?_
  have hPc := hP.sub (ws' := [(h0, .inr (5, [.ref tp, .ref td, .int 0, .int 0, .int 0, .int 0, .int 0, .int 0, .int 0, .int 0, .int 0, .int 0])), (td, .inr (9, [.int 0, .int 0, .int 5, .ref a1, .ref a2, .ref a3, .ref a4, .ref a5, .ref a6])), (a3, .inl (G 0, 10, .inl f))]) [0, 2, 3] rfl
  have hDc := hD.sub (ws' := [(h0, .inr (5, [.ref tp, .ref td, .int 0, .int 0, .int 0, .int 0, .int 0, .int 0, .int 0, .int 0, .int 0, .int 0])), (td, .inr (9, [.int 0, .int 0, .int 5, .ref a1, .ref a2, .ref a3, .ref a4, .ref a5, .ref a6])), (a3, .inl (G 0, 10, .inl f))]) [0, 2, 3] (by decide) rfl
  have hFc := va_free (wc := [(h0, .inr (5, [.ref tp, .ref td, .int 0, .int 0, .int 0, .int 0, .int 0, .int 0, .int 0, .int 0, .int 0, .int 0])), (td, .inr (9, [.int 0, .int 0, .int 5, .ref a1, .ref a2, .ref a3, .ref a4, .ref a5, .ref a6])), (a3, .inl (G 0, 10, .inl f))]) hD hS hA [0, 2, 3] rfl
  refine va_callv (va_runV (As := []) (rest := []) ⟨hx, hb, hml, hown, hg⟩ (c_X5_begin l dC dI G _ h0 tp td a1 a2 a3 a4 a5 a6 0 0 0 0 0 0 0 0 0 0 0 0 5 f ) (kwV hg mfX5_begin wt_366 ⟨Nat.le_of_ble_eq_true rfl, Nat.le_of_ble_eq_true rfl⟩) (preVW hK hPc hDc (ci := 5) rfl rfl) rfl rfl hl.1 rfl (lv_room (Nat.le_of_ble_eq_true rfl)) dX5_readAll_1 ⟨Nat.le_of_ble_eq_true rfl, Nat.le_of_ble_eq_true rfl⟩) hS (fun q _ h => hFc q h) hFc (fun ur1 t H1 locs ht hvm w2 hB hz1 hk1 hS => ?_)
  obtain ⟨u3, rfl⟩ : ∃ z, z = ur1 := ⟨_, rfl⟩
  obtain ⟨hP1, hD1⟩ := hB
  rw [ht] at hP1
  obtain ⟨hP, hD⟩ := va_join (wr := [(tp, .inr (7, [.int 0, .ref ta]))]) (w1 := [(h0, .inr (5, [.ref tp, .ref td, .int 0, .int 0, .int 0, .int 0, .int 0, .int 0, .int 0, .int 0, .int (-4), .int (-4)])), (td, .inr (9, [.int 0, .int 0, .int 5, .ref a1, .ref a2, .ref a3, .ref a4, .ref a5, .ref a6])), (a3, .inl (G 0, 10, .inl u3))]) hP hD [0, 2, 3] [1] rfl rfl (by decide) (by decide) hk1 hFc hP1 hD1
  generalize H1 = H at hP hS ⊢
  have hP : va_P (dC, dI) vwCl [(tp, .inr (7, [.int 0, .ref ta])), (h0, .inr (5, [.ref tp, .ref td, .int 0, .int 0, .int 0, .int 0, .int 0, .int 0, .int 0, .int 0, .int (-4), .int (-4)])), (td, .inr (9, [.int 0, .int 0, .int 5, .ref a1, .ref a2, .ref a3, .ref a4, .ref a5, .ref a6])), (a3, .inl (G 0, 10, .inl u3))] H := hP
  have hD : va_D A [(tp, .inr (7, [.int 0, .ref ta])), (h0, .inr (5, [.ref tp, .ref td, .int 0, .int 0, .int 0, .int 0, .int 0, .int 0, .int 0, .int 0, .int (-4), .int (-4)])), (td, .inr (9, [.int 0, .int 0, .int 5, .ref a1, .ref a2, .ref a3, .ref a4, .ref a5, .ref a6])), (a3, .inl (G 0, 10, .inl u3))] := hD
  refine lv_aload_n hx hb dX5_readAll_4 rfl (lv_at hl 0 rfl) ?_
  have hPc := hP.sub (ws' := [(h0, .inr (5, [.ref tp, .ref td, .int 0, .int 0, .int 0, .int 0, .int 0, .int 0, .int 0, .int 0, .int (-4), .int (-4)])), (tp, .inr (7, [.int 0, .ref ta]))]) [1, 0] rfl
  have hDc := hD.sub (ws' := [(h0, .inr (5, [.ref tp, .ref td, .int 0, .int 0, .int 0, .int 0, .int 0, .int 0, .int 0, .int 0, .int (-4), .int (-4)])), (tp, .inr (7, [.int 0, .ref ta]))]) [1, 0] (by decide) rfl
  have hFc := va_free (wc := [(h0, .inr (5, [.ref tp, .ref td, .int 0, .int 0, .int 0, .int 0, .int 0, .int 0, .int 0, .int 0, .int (-4), .int (-4)])), (tp, .inr (7, [.int 0, .ref ta]))]) hD hS hA [1, 0] rfl
  refine va_calli (va_runV (As := []) (rest := []) ⟨hx, hb, hml, hown, hg⟩ (c_X5_nextToken l dC dI G _ h0 tp td ta 0 0 ) (kwV hg mfX5_nextToken wt_374 ⟨Nat.le_of_ble_eq_true rfl, Nat.le_of_ble_eq_true rfl⟩) (preVW hK hPc hDc (ci := 5) rfl rfl) rfl rfl hl.1 rfl (lv_room (Nat.le_of_ble_eq_true rfl)) dX5_readAll_5 ⟨Nat.le_of_ble_eq_true rfl, Nat.le_of_ble_eq_true rfl⟩) hS (fun q _ h => hFc q h) hFc (fun r4 ur4 t H1 locs ht hvm w5 hB hz1 hk1 hS => ?_)
  obtain ⟨hP1, hD1⟩ := hB
  rw [ht] at hP1
  obtain ⟨hP, hD⟩ := va_join (wr := [(td, .inr (9, [.int 0, .int 0, .int 5, .ref a1, .ref a2, .ref a3, .ref a4, .ref a5, .ref a6])), (a3, .inl (G 0, 10, .inl u3))]) (w1 := [(h0, .inr (5, [.ref tp, .ref td, .int 0, .int 0, .int 0, .int 0, .int 0, .int 0, .int 0, .int 0, .int (-4), .int (-4)])), (tp, .inr (7, [.int 0, .ref ta]))]) hP hD [1, 0] [2, 3] rfl rfl (by decide) (by decide) hk1 hFc hP1 hD1
  generalize H1 = H at hP hS ⊢
  have hP : va_P (dC, dI) vwCl [(td, .inr (9, [.int 0, .int 0, .int 5, .ref a1, .ref a2, .ref a3, .ref a4, .ref a5, .ref a6])), (a3, .inl (G 0, 10, .inl u3)), (h0, .inr (5, [.ref tp, .ref td, .int 0, .int 0, .int 0, .int 0, .int 0, .int 0, .int 0, .int 0, .int (-4), .int (-4)])), (tp, .inr (7, [.int 0, .ref ta]))] H := hP
  have hD : va_D A [(td, .inr (9, [.int 0, .int 0, .int 5, .ref a1, .ref a2, .ref a3, .ref a4, .ref a5, .ref a6])), (a3, .inl (G 0, 10, .inl u3)), (h0, .inr (5, [.ref tp, .ref td, .int 0, .int 0, .int 0, .int 0, .int 0, .int 0, .int 0, .int 0, .int (-4), .int (-4)])), (tp, .inr (7, [.int 0, .ref ta]))] := hD
  obtain ⟨w5, w5x⟩ := w5
  subst w5
  refine lv_pop hx hb dX5_readAll_8 rfl ?_
  refine lv_iconst (v := 0) hx hb dX5_readAll_9 (by decide) ?_
  refine lv_istore_n (lv' := [(1, .int 0), (0, .ref h0)]) hx hb dX5_readAll_10 rfl hl (by decide) rfl (fun ls hl => ?_)
  refine lv_iload_n hx hb dX5_readAll_11 rfl (lv_at hl 0 rfl) ?_
  refine lv_aload_n hx hb dX5_readAll_12 rfl (lv_at hl 1 rfl) ?_
  refine va_get (D := (dC, dI)) (ci := 5) (v := .ref tp) (C := RX5) (T := TX5) (N := 12) hx hb hg inG5 hown hK.1 hP 2 rfl rfl 0 (by decide) (hg _ wt_105) (fun _ h9 => h9) rfl dX5_readAll_13 ?_
  refine va_getN (D := (dC, dI)) (ci := 7) (v := .int 0) (C := RX7) (T := TX7) (N := 2) hx hb hg inG7 hown hK.1 hP 3 rfl rfl 0 (by decide) (hK.nest wn_41) (fun _ h9 => h9) rfl dX5_readAll_16 ?_
  refine lv_icmp_gt (tgt := 64) hx hb dX5_readAll_19 (by decide) (fun c6 => ?_) (fun c6 => ?_)
  · skip
    exact absurd c6 (by decide)
  · skip
    refine lv_aload_n hx hb dX5_readAll_22 rfl (lv_at hl 1 rfl) ?_
    refine va_get (D := (dC, dI)) (ci := 5) (v := .int 0) (C := RX5) (T := TX5) (N := 12) hx hb hg inG5 hown hK.1 hP 2 rfl rfl 2 (by decide) (hg _ wt_109) (fun _ h9 => h9) rfl dX5_readAll_23 ?_
    refine lv_if_ne (tgt := 64) hx hb dX5_readAll_26 (by decide) (fun c7 => ?_) (fun c7 => ?_)
    · skip
      exact absurd c7 (by decide)
    · skip
      refine lv_aload_n hx hb dX5_readAll_29 rfl (lv_at hl 1 rfl) ?_
      refine va_get (D := (dC, dI)) (ci := 5) (v := .int 0) (C := RX5) (T := TX5) (N := 12) hx hb hg inG5 hown hK.1 hP 2 rfl rfl 5 (by decide) (hg _ wt_115) (fun _ h9 => h9) rfl dX5_readAll_30 ?_
      refine lv_if_eq (tgt := 64) hx hb dX5_readAll_33 (by decide) (fun c8 => ?_) (fun c8 => ?_)
      · skip
        refine lv_aload_n hx hb dX5_readAll_64 rfl (lv_at hl 1 rfl) ?_
        refine va_get (D := (dC, dI)) (ci := 5) (v := .int 0) (C := RX5) (T := TX5) (N := 12) hx hb hg inG5 hown hK.1 hP 2 rfl rfl 2 (by decide) (hg _ wt_109) (fun _ h9 => h9) rfl dX5_readAll_65 ?_
        refine lv_if_ne (tgt := 75) hx hb dX5_readAll_68 (by decide) (fun c9 => ?_) (fun c9 => ?_)
        · skip
          exact absurd c9 (by decide)
        · skip
          refine lv_aload_n hx hb dX5_readAll_71 rfl (lv_at hl 1 rfl) ?_
          have hPc := hP.sub (ws' := [(h0, .inr (5, [.ref tp, .ref td, .int 0, .int 0, .int 0, .int 0, .int 0, .int 0, .int 0, .int 0, .int (-4), .int (-4)])), (td, .inr (9, [.int 0, .int 0, .int 5, .ref a1, .ref a2, .ref a3, .ref a4, .ref a5, .ref a6]))]) [2, 0] rfl
          refine va_callv (va_runV (As := []) (rest := []) ⟨hx, hb, hml, hown, hg⟩ (c_X5_lookBehindAll l dC dI G _ h0 tp td a1 a2 a3 a4 a5 a6 ) (kwV hg mfX5_lookBehindAll wt_503 ⟨Nat.le_of_ble_eq_true rfl, Nat.le_of_ble_eq_true rfl⟩) (preVR hK hPc (ci := 5) rfl rfl) rfl rfl hl.1 rfl (lv_room (Nat.le_of_ble_eq_true rfl)) dX5_readAll_72 ⟨Nat.le_of_ble_eq_true rfl, Nat.le_of_ble_eq_true rfl⟩) hS (fun q h1 h2 => absurd h2 (Nat.not_le.mpr h1)) (fun q h => hA q (Nat.le_trans hS.1 h)) (fun ur10 t H1 locs ht hvm w11 hB hz1 hk1 hS => ?_)
          have hP := keepR hP hk1
          have hP9 := hP.sub (ws' := [(h0, .inr (5, [.ref tp, .ref td, .int 0, .int 0, .int 0, .int 0, .int 0, .int 0, .int 0, .int 0, .int (-4), .int (-4)])), (tp, .inr (7, [.int 0, .ref ta])), (td, .inr (9, [.int 0, .int 0, .int 5, .ref a1, .ref a2, .ref a3, .ref a4, .ref a5, .ref a6])), (a3, .inl (G 0, 10, .inl u3))]) [2, 3, 0, 1] rfl
          have hD9 := hD.sub (ws' := [(h0, .inr (5, [.ref tp, .ref td, .int 0, .int 0, .int 0, .int 0, .int 0, .int 0, .int 0, .int 0, .int (-4), .int (-4)])), (tp, .inr (7, [.int 0, .ref ta])), (td, .inr (9, [.int 0, .int 0, .int 5, .ref a1, .ref a2, .ref a3, .ref a4, .ref a5, .ref a6])), (a3, .inl (G 0, 10, .inl u3))]) [2, 3, 0, 1] (by decide) rfl
          refine W.widen (k := 0) (n := 0) (by omega) (by omega) ?_
          exact W.vret hx hb hr (fun t ht hW => ⟨⟨u3, rfl, trivial, ⟨by rw [ht]; exact hP9, hD9⟩⟩, hS.F ht⟩) hS.2.2 dX5_readAll_75
      · skip
        exact absurd c8 (by decide)

set_option maxHeartbeats 4000000 in
set_option maxRecDepth 100000 in
theorem c_X10_isFractionPart (l : Launch) (dC : Nat → ClassId) (dI : Nat → Nat → Nat) (G : Nat → ClassId) (sz : Nat) (i : Int32)  : Met l yX10_isFractionPart (Cond.code yX10_isFractionPart cX10_isFractionPart 1 (some .boolean) :: GT) ({ frames := 0, cells := 0, slots := 0, locals := 0 } : Room) (PcR [.int i] dC dI G [] sz) (va_Qi (fun (r : Int32) (u : Unit) => match u with | _ => (r = if 0 ≤ i.toInt ∧ i.toInt ≤ 1 then 1 else 0) ∧ True) (fun _ _ => True) (fun q : Nat => sz ≤ q)) 0 0 (fun q : Nat => sz ≤ q) := by
  refine Met.ofW (cc := cX10_isFractionPart) (maxL := 1) (ret := (some .boolean)) (by decide) rfl ?_
  intro p e s m args below meth c s₁ B hml hv
  obtain ⟨rfl, hsz, hP, hK⟩ := hv
  have hx := B.exec
  have hb := B.bytes
  have hr := B.returns
  have hg : ∀ w ∈ GT, w.before ([.int i] : List Value).toArray s = true := fun w h => atoms_spec (ws := Cond.code yX10_isFractionPart cX10_isFractionPart 1 (some .boolean) :: GT) B.pre w (List.mem_cons_of_mem _ h)
  have hown : s.vm.findClass RX10 = some m.cls := findClass_of_methodNamed B.named
  have hlocks := B.notSynchronized
  subst hsz
  have hA : ∀ q : Nat, s.heap.size ≤ q → (fun q : Nat => s.heap.size ≤ q) q := fun _ h => h
  have hS : va_S (fun q : Nat => s.heap.size ≤ q) s.heap s.heap [] := va_S.rf
  have hl := lv_entry ([.int i]) (n := 1) (Nat.le_of_ble_eq_true rfl)
  rw [lg_entry_eq]
  generalize (lg_sl ([.int i]) ++ List.replicate (1 - (lg_sl ([.int i])).length) Slot.unset).toArray = ls at hl ⊢
  have hl : lv_has ls 1 [(0, .int i)] := hl
  refine lv_iload_n hx hb dX10_isFractionPart_0 rfl (lv_at hl 0 rfl) ?_
  refine lv_if_eq (tgt := 9) hx hb dX10_isFractionPart_1 (by decide) (fun c1 => ?_) (fun c1 => ?_)
  · skip
    refine lv_iconst (v := 1) hx hb dX10_isFractionPart_9 (by decide) ?_
    refine lv_goto (tgt := 14) hx hb dX10_isFractionPart_10 (by decide) ?_
    have hpost : (1 : Int32) = if 0 ≤ i.toInt ∧ i.toInt ≤ 1 then 1 else 0 := by
      have t_c1 := eqI c1
      have : (0 : Int32).toInt = 0 := (by decide)
      first | rfl | ((repeat' split) <;> first | rfl | omega)
    refine W.widen (k := 0) (n := 0) (by omega) (by omega) ?_
    exact W.zret (v := 1) hx hb hr (by first | rfl | decide | exact rfl) (fun t ht hW => ⟨⟨1, (), rfl, ⟨hpost, trivial⟩, trivial⟩, hS.F ht⟩) hS.2.2 dX10_isFractionPart_14
  · skip
    refine lv_iload_n hx hb dX10_isFractionPart_4 rfl (lv_at hl 0 rfl) ?_
    refine lv_iconst (v := 1) hx hb dX10_isFractionPart_5 (by decide) ?_
    refine lv_icmp_ne (tgt := 13) hx hb dX10_isFractionPart_6 (by decide) (fun c2 => ?_) (fun c2 => ?_)
    · skip
      refine lv_iconst (v := 0) hx hb dX10_isFractionPart_13 (by decide) ?_
      have hpost : (0 : Int32) = if 0 ≤ i.toInt ∧ i.toInt ≤ 1 then 1 else 0 := by
        have t_c1 := neI c1
        have t_c2 := neI c2
        have : (0 : Int32).toInt = 0 := (by decide)
        have : (1 : Int32).toInt = 1 := (by decide)
        first | rfl | ((repeat' split) <;> first | rfl | omega)
      refine W.widen (k := 0) (n := 0) (by omega) (by omega) ?_
      exact W.zret (v := 0) hx hb hr (by first | rfl | decide | exact rfl) (fun t ht hW => ⟨⟨0, (), rfl, ⟨hpost, trivial⟩, trivial⟩, hS.F ht⟩) hS.2.2 dX10_isFractionPart_14
    · skip
      refine lv_iconst (v := 1) hx hb dX10_isFractionPart_9 (by decide) ?_
      refine lv_goto (tgt := 14) hx hb dX10_isFractionPart_10 (by decide) ?_
      have hpost : (1 : Int32) = if 0 ≤ i.toInt ∧ i.toInt ≤ 1 then 1 else 0 := by
        have t_c1 := neI c1
        have t_c2 := eqI c2
        have : (0 : Int32).toInt = 0 := (by decide)
        have : (1 : Int32).toInt = 1 := (by decide)
        first | rfl | ((repeat' split) <;> first | rfl | omega)
      refine W.widen (k := 0) (n := 0) (by omega) (by omega) ?_
      exact W.zret (v := 1) hx hb hr (by first | rfl | decide | exact rfl) (fun t ht hW => ⟨⟨1, (), rfl, ⟨hpost, trivial⟩, trivial⟩, hS.F ht⟩) hS.2.2 dX10_isFractionPart_14

set_option maxHeartbeats 4000000 in
set_option maxRecDepth 100000 in
theorem c_X10_isAnswerPart (l : Launch) (dC : Nat → ClassId) (dI : Nat → Nat → Nat) (G : Nat → ClassId) (sz : Nat) (i : Int32)  : Met l yX10_isAnswerPart (Cond.code yX10_isAnswerPart cX10_isAnswerPart 1 (some .boolean) :: GT) ({ frames := 0, cells := 0, slots := 0, locals := 0 } : Room) (PcR [.int i] dC dI G [] sz) (va_Qi (fun (r : Int32) (u : Unit) => match u with | _ => (r = if 0 ≤ i.toInt ∧ i.toInt ≤ 2 then 1 else 0) ∧ True) (fun _ _ => True) (fun q : Nat => sz ≤ q)) 0 0 (fun q : Nat => sz ≤ q) := by
  refine Met.ofW (cc := cX10_isAnswerPart) (maxL := 1) (ret := (some .boolean)) (by decide) rfl ?_
  intro p e s m args below meth c s₁ B hml hv
  obtain ⟨rfl, hsz, hP, hK⟩ := hv
  have hx := B.exec
  have hb := B.bytes
  have hr := B.returns
  have hg : ∀ w ∈ GT, w.before ([.int i] : List Value).toArray s = true := fun w h => atoms_spec (ws := Cond.code yX10_isAnswerPart cX10_isAnswerPart 1 (some .boolean) :: GT) B.pre w (List.mem_cons_of_mem _ h)
  have hown : s.vm.findClass RX10 = some m.cls := findClass_of_methodNamed B.named
  have hlocks := B.notSynchronized
  subst hsz
  have hA : ∀ q : Nat, s.heap.size ≤ q → (fun q : Nat => s.heap.size ≤ q) q := fun _ h => h
  have hS : va_S (fun q : Nat => s.heap.size ≤ q) s.heap s.heap [] := va_S.rf
  have hl := lv_entry ([.int i]) (n := 1) (Nat.le_of_ble_eq_true rfl)
  rw [lg_entry_eq]
  generalize (lg_sl ([.int i]) ++ List.replicate (1 - (lg_sl ([.int i])).length) Slot.unset).toArray = ls at hl ⊢
  have hl : lv_has ls 1 [(0, .int i)] := hl
  refine lv_iload_n hx hb dX10_isAnswerPart_0 rfl (lv_at hl 0 rfl) ?_
  refine lv_if_lt (tgt := 13) hx hb dX10_isAnswerPart_1 (by decide) (fun c1 => ?_) (fun c1 => ?_)
  · skip
    refine lv_iconst (v := 0) hx hb dX10_isAnswerPart_13 (by decide) ?_
    have hpost : (0 : Int32) = if 0 ≤ i.toInt ∧ i.toInt ≤ 2 then 1 else 0 := by
      have t_c1 := ltI c1
      have : (0 : Int32).toInt = 0 := (by decide)
      first | rfl | ((repeat' split) <;> first | rfl | omega)
    refine W.widen (k := 0) (n := 0) (by omega) (by omega) ?_
    exact W.zret (v := 0) hx hb hr (by first | rfl | decide | exact rfl) (fun t ht hW => ⟨⟨0, (), rfl, ⟨hpost, trivial⟩, trivial⟩, hS.F ht⟩) hS.2.2 dX10_isAnswerPart_14
  · skip
    refine lv_iload_n hx hb dX10_isAnswerPart_4 rfl (lv_at hl 0 rfl) ?_
    refine lv_iconst (v := 2) hx hb dX10_isAnswerPart_5 (by decide) ?_
    refine lv_icmp_gt (tgt := 13) hx hb dX10_isAnswerPart_6 (by decide) (fun c2 => ?_) (fun c2 => ?_)
    · skip
      refine lv_iconst (v := 0) hx hb dX10_isAnswerPart_13 (by decide) ?_
      have hpost : (0 : Int32) = if 0 ≤ i.toInt ∧ i.toInt ≤ 2 then 1 else 0 := by
        have t_c1 := nltI c1
        have t_c2 := ltI c2
        have : (0 : Int32).toInt = 0 := (by decide)
        have : (2 : Int32).toInt = 2 := (by decide)
        first | rfl | ((repeat' split) <;> first | rfl | omega)
      refine W.widen (k := 0) (n := 0) (by omega) (by omega) ?_
      exact W.zret (v := 0) hx hb hr (by first | rfl | decide | exact rfl) (fun t ht hW => ⟨⟨0, (), rfl, ⟨hpost, trivial⟩, trivial⟩, hS.F ht⟩) hS.2.2 dX10_isAnswerPart_14
    · skip
      refine lv_iconst (v := 1) hx hb dX10_isAnswerPart_9 (by decide) ?_
      refine lv_goto (tgt := 14) hx hb dX10_isAnswerPart_10 (by decide) ?_
      have hpost : (1 : Int32) = if 0 ≤ i.toInt ∧ i.toInt ≤ 2 then 1 else 0 := by
        have t_c1 := nltI c1
        have t_c2 := nltI c2
        have : (0 : Int32).toInt = 0 := (by decide)
        have : (2 : Int32).toInt = 2 := (by decide)
        first | rfl | ((repeat' split) <;> first | rfl | omega)
      refine W.widen (k := 0) (n := 0) (by omega) (by omega) ?_
      exact W.zret (v := 1) hx hb hr (by first | rfl | decide | exact rfl) (fun t ht hW => ⟨⟨1, (), rfl, ⟨hpost, trivial⟩, trivial⟩, hS.F ht⟩) hS.2.2 dX10_isAnswerPart_14

set_option maxHeartbeats 4000000 in
set_option maxRecDepth 100000 in
theorem c_X10_isDepth (l : Launch) (dC : Nat → ClassId) (dI : Nat → Nat → Nat) (G : Nat → ClassId) (sz : Nat) (i : Int32)  : Met l yX10_isDepth (Cond.code yX10_isDepth cX10_isDepth 1 (some .boolean) :: GT) ({ frames := 0, cells := 0, slots := 0, locals := 0 } : Room) (PcR [.int i] dC dI G [] sz) (va_Qi (fun (r : Int32) (u : Unit) => match u with | _ => (r = if 0 ≤ i.toInt ∧ i.toInt ≤ 9 then 1 else 0) ∧ True) (fun _ _ => True) (fun q : Nat => sz ≤ q)) 0 0 (fun q : Nat => sz ≤ q) := by
  refine Met.ofW (cc := cX10_isDepth) (maxL := 1) (ret := (some .boolean)) (by decide) rfl ?_
  intro p e s m args below meth c s₁ B hml hv
  obtain ⟨rfl, hsz, hP, hK⟩ := hv
  have hx := B.exec
  have hb := B.bytes
  have hr := B.returns
  have hg : ∀ w ∈ GT, w.before ([.int i] : List Value).toArray s = true := fun w h => atoms_spec (ws := Cond.code yX10_isDepth cX10_isDepth 1 (some .boolean) :: GT) B.pre w (List.mem_cons_of_mem _ h)
  have hown : s.vm.findClass RX10 = some m.cls := findClass_of_methodNamed B.named
  have hlocks := B.notSynchronized
  subst hsz
  have hA : ∀ q : Nat, s.heap.size ≤ q → (fun q : Nat => s.heap.size ≤ q) q := fun _ h => h
  have hS : va_S (fun q : Nat => s.heap.size ≤ q) s.heap s.heap [] := va_S.rf
  have hl := lv_entry ([.int i]) (n := 1) (Nat.le_of_ble_eq_true rfl)
  rw [lg_entry_eq]
  generalize (lg_sl ([.int i]) ++ List.replicate (1 - (lg_sl ([.int i])).length) Slot.unset).toArray = ls at hl ⊢
  have hl : lv_has ls 1 [(0, .int i)] := hl
  refine lv_iload_n hx hb dX10_isDepth_0 rfl (lv_at hl 0 rfl) ?_
  refine lv_if_lt (tgt := 14) hx hb dX10_isDepth_1 (by decide) (fun c1 => ?_) (fun c1 => ?_)
  · skip
    refine lv_iconst (v := 0) hx hb dX10_isDepth_14 (by decide) ?_
    have hpost : (0 : Int32) = if 0 ≤ i.toInt ∧ i.toInt ≤ 9 then 1 else 0 := by
      have t_c1 := ltI c1
      have : (0 : Int32).toInt = 0 := (by decide)
      first | rfl | ((repeat' split) <;> first | rfl | omega)
    refine W.widen (k := 0) (n := 0) (by omega) (by omega) ?_
    exact W.zret (v := 0) hx hb hr (by first | rfl | decide | exact rfl) (fun t ht hW => ⟨⟨0, (), rfl, ⟨hpost, trivial⟩, trivial⟩, hS.F ht⟩) hS.2.2 dX10_isDepth_15
  · skip
    refine lv_iload_n hx hb dX10_isDepth_4 rfl (lv_at hl 0 rfl) ?_
    refine lv_bipush (v := 9) hx hb dX10_isDepth_5 (by decide) ?_
    refine lv_icmp_gt (tgt := 14) hx hb dX10_isDepth_7 (by decide) (fun c2 => ?_) (fun c2 => ?_)
    · skip
      refine lv_iconst (v := 0) hx hb dX10_isDepth_14 (by decide) ?_
      have hpost : (0 : Int32) = if 0 ≤ i.toInt ∧ i.toInt ≤ 9 then 1 else 0 := by
        have t_c1 := nltI c1
        have t_c2 := ltI c2
        have : (0 : Int32).toInt = 0 := (by decide)
        have : (9 : Int32).toInt = 9 := (by decide)
        first | rfl | ((repeat' split) <;> first | rfl | omega)
      refine W.widen (k := 0) (n := 0) (by omega) (by omega) ?_
      exact W.zret (v := 0) hx hb hr (by first | rfl | decide | exact rfl) (fun t ht hW => ⟨⟨0, (), rfl, ⟨hpost, trivial⟩, trivial⟩, hS.F ht⟩) hS.2.2 dX10_isDepth_15
    · skip
      refine lv_iconst (v := 1) hx hb dX10_isDepth_10 (by decide) ?_
      refine lv_goto (tgt := 15) hx hb dX10_isDepth_11 (by decide) ?_
      have hpost : (1 : Int32) = if 0 ≤ i.toInt ∧ i.toInt ≤ 9 then 1 else 0 := by
        have t_c1 := nltI c1
        have t_c2 := nltI c2
        have : (0 : Int32).toInt = 0 := (by decide)
        have : (9 : Int32).toInt = 9 := (by decide)
        first | rfl | ((repeat' split) <;> first | rfl | omega)
      refine W.widen (k := 0) (n := 0) (by omega) (by omega) ?_
      exact W.zret (v := 1) hx hb hr (by first | rfl | decide | exact rfl) (fun t ht hW => ⟨⟨1, (), rfl, ⟨hpost, trivial⟩, trivial⟩, hS.F ht⟩) hS.2.2 dX10_isDepth_15

set_option maxHeartbeats 4000000 in
set_option maxRecDepth 100000 in
theorem c_X10_isImage (l : Launch) (dC : Nat → ClassId) (dI : Nat → Nat → Nat) (G : Nat → ClassId) (sz : Nat) (i : Int32)  : Met l yX10_isImage (Cond.code yX10_isImage cX10_isImage 1 (some .boolean) :: GT) ({ frames := 0, cells := 0, slots := 0, locals := 0 } : Room) (PcR [.int i] dC dI G [] sz) (va_Qi (fun (r : Int32) (u : Unit) => match u with | _ => (r = if 0 ≤ i.toInt ∧ i.toInt < 2 then 1 else 0) ∧ True) (fun _ _ => True) (fun q : Nat => sz ≤ q)) 0 0 (fun q : Nat => sz ≤ q) := by
  refine Met.ofW (cc := cX10_isImage) (maxL := 1) (ret := (some .boolean)) (by decide) rfl ?_
  intro p e s m args below meth c s₁ B hml hv
  obtain ⟨rfl, hsz, hP, hK⟩ := hv
  have hx := B.exec
  have hb := B.bytes
  have hr := B.returns
  have hg : ∀ w ∈ GT, w.before ([.int i] : List Value).toArray s = true := fun w h => atoms_spec (ws := Cond.code yX10_isImage cX10_isImage 1 (some .boolean) :: GT) B.pre w (List.mem_cons_of_mem _ h)
  have hown : s.vm.findClass RX10 = some m.cls := findClass_of_methodNamed B.named
  have hlocks := B.notSynchronized
  subst hsz
  have hA : ∀ q : Nat, s.heap.size ≤ q → (fun q : Nat => s.heap.size ≤ q) q := fun _ h => h
  have hS : va_S (fun q : Nat => s.heap.size ≤ q) s.heap s.heap [] := va_S.rf
  have hl := lv_entry ([.int i]) (n := 1) (Nat.le_of_ble_eq_true rfl)
  rw [lg_entry_eq]
  generalize (lg_sl ([.int i]) ++ List.replicate (1 - (lg_sl ([.int i])).length) Slot.unset).toArray = ls at hl ⊢
  have hl : lv_has ls 1 [(0, .int i)] := hl
  refine lv_iload_n hx hb dX10_isImage_0 rfl (lv_at hl 0 rfl) ?_
  refine lv_if_lt (tgt := 13) hx hb dX10_isImage_1 (by decide) (fun c1 => ?_) (fun c1 => ?_)
  · skip
    refine lv_iconst (v := 0) hx hb dX10_isImage_13 (by decide) ?_
    have hpost : (0 : Int32) = if 0 ≤ i.toInt ∧ i.toInt < 2 then 1 else 0 := by
      have t_c1 := ltI c1
      have : (0 : Int32).toInt = 0 := (by decide)
      first | rfl | ((repeat' split) <;> first | rfl | omega)
    refine W.widen (k := 0) (n := 0) (by omega) (by omega) ?_
    exact W.zret (v := 0) hx hb hr (by first | rfl | decide | exact rfl) (fun t ht hW => ⟨⟨0, (), rfl, ⟨hpost, trivial⟩, trivial⟩, hS.F ht⟩) hS.2.2 dX10_isImage_14
  · skip
    refine lv_iload_n hx hb dX10_isImage_4 rfl (lv_at hl 0 rfl) ?_
    refine lv_iconst (v := 2) hx hb dX10_isImage_5 (by decide) ?_
    refine lv_icmp_ge (tgt := 13) hx hb dX10_isImage_6 (by decide) (fun c2 => ?_) (fun c2 => ?_)
    · skip
      refine lv_iconst (v := 0) hx hb dX10_isImage_13 (by decide) ?_
      have hpost : (0 : Int32) = if 0 ≤ i.toInt ∧ i.toInt < 2 then 1 else 0 := by
        have t_c1 := nltI c1
        have t_c2 := leI c2
        have : (0 : Int32).toInt = 0 := (by decide)
        have : (2 : Int32).toInt = 2 := (by decide)
        first | rfl | ((repeat' split) <;> first | rfl | omega)
      refine W.widen (k := 0) (n := 0) (by omega) (by omega) ?_
      exact W.zret (v := 0) hx hb hr (by first | rfl | decide | exact rfl) (fun t ht hW => ⟨⟨0, (), rfl, ⟨hpost, trivial⟩, trivial⟩, hS.F ht⟩) hS.2.2 dX10_isImage_14
    · skip
      refine lv_iconst (v := 1) hx hb dX10_isImage_9 (by decide) ?_
      refine lv_goto (tgt := 14) hx hb dX10_isImage_10 (by decide) ?_
      have hpost : (1 : Int32) = if 0 ≤ i.toInt ∧ i.toInt < 2 then 1 else 0 := by
        have t_c1 := nltI c1
        have t_c2 := nleI c2
        have : (0 : Int32).toInt = 0 := (by decide)
        have : (2 : Int32).toInt = 2 := (by decide)
        first | rfl | ((repeat' split) <;> first | rfl | omega)
      refine W.widen (k := 0) (n := 0) (by omega) (by omega) ?_
      exact W.zret (v := 1) hx hb hr (by first | rfl | decide | exact rfl) (fun t ht hW => ⟨⟨1, (), rfl, ⟨hpost, trivial⟩, trivial⟩, hS.F ht⟩) hS.2.2 dX10_isImage_14

set_option maxHeartbeats 4000000 in
set_option maxRecDepth 100000 in
theorem c_X6_isSheet (l : Launch) (dC : Nat → ClassId) (dI : Nat → Nat → Nat) (G : Nat → ClassId) (sz : Nat) (i : Int32)  : Met l yX6_isSheet (Cond.code yX6_isSheet cX6_isSheet 1 (some .boolean) :: GT) ({ frames := 0, cells := 0, slots := 0, locals := 0 } : Room) (PcR [.int i] dC dI G [] sz) (va_Qi (fun (r : Int32) (u : Unit) => match u with | _ => (r = if 0 ≤ i.toInt ∧ i.toInt < 4 then 1 else 0) ∧ True) (fun _ _ => True) (fun q : Nat => sz ≤ q)) 0 0 (fun q : Nat => sz ≤ q) := by
  refine Met.ofW (cc := cX6_isSheet) (maxL := 1) (ret := (some .boolean)) (by decide) rfl ?_
  intro p e s m args below meth c s₁ B hml hv
  obtain ⟨rfl, hsz, hP, hK⟩ := hv
  have hx := B.exec
  have hb := B.bytes
  have hr := B.returns
  have hg : ∀ w ∈ GT, w.before ([.int i] : List Value).toArray s = true := fun w h => atoms_spec (ws := Cond.code yX6_isSheet cX6_isSheet 1 (some .boolean) :: GT) B.pre w (List.mem_cons_of_mem _ h)
  have hown : s.vm.findClass RX6 = some m.cls := findClass_of_methodNamed B.named
  have hlocks := B.notSynchronized
  subst hsz
  have hA : ∀ q : Nat, s.heap.size ≤ q → (fun q : Nat => s.heap.size ≤ q) q := fun _ h => h
  have hS : va_S (fun q : Nat => s.heap.size ≤ q) s.heap s.heap [] := va_S.rf
  have hl := lv_entry ([.int i]) (n := 1) (Nat.le_of_ble_eq_true rfl)
  rw [lg_entry_eq]
  generalize (lg_sl ([.int i]) ++ List.replicate (1 - (lg_sl ([.int i])).length) Slot.unset).toArray = ls at hl ⊢
  have hl : lv_has ls 1 [(0, .int i)] := hl
  refine lv_iload_n hx hb dX6_isSheet_0 rfl (lv_at hl 0 rfl) ?_
  refine lv_if_lt (tgt := 13) hx hb dX6_isSheet_1 (by decide) (fun c1 => ?_) (fun c1 => ?_)
  · skip
    refine lv_iconst (v := 0) hx hb dX6_isSheet_13 (by decide) ?_
    have hpost : (0 : Int32) = if 0 ≤ i.toInt ∧ i.toInt < 4 then 1 else 0 := by
      have t_c1 := ltI c1
      have : (0 : Int32).toInt = 0 := (by decide)
      first | rfl | ((repeat' split) <;> first | rfl | omega)
    refine W.widen (k := 0) (n := 0) (by omega) (by omega) ?_
    exact W.zret (v := 0) hx hb hr (by first | rfl | decide | exact rfl) (fun t ht hW => ⟨⟨0, (), rfl, ⟨hpost, trivial⟩, trivial⟩, hS.F ht⟩) hS.2.2 dX6_isSheet_14
  · skip
    refine lv_iload_n hx hb dX6_isSheet_4 rfl (lv_at hl 0 rfl) ?_
    refine lv_iconst (v := 4) hx hb dX6_isSheet_5 (by decide) ?_
    refine lv_icmp_ge (tgt := 13) hx hb dX6_isSheet_6 (by decide) (fun c2 => ?_) (fun c2 => ?_)
    · skip
      refine lv_iconst (v := 0) hx hb dX6_isSheet_13 (by decide) ?_
      have hpost : (0 : Int32) = if 0 ≤ i.toInt ∧ i.toInt < 4 then 1 else 0 := by
        have t_c1 := nltI c1
        have t_c2 := leI c2
        have : (0 : Int32).toInt = 0 := (by decide)
        have : (4 : Int32).toInt = 4 := (by decide)
        first | rfl | ((repeat' split) <;> first | rfl | omega)
      refine W.widen (k := 0) (n := 0) (by omega) (by omega) ?_
      exact W.zret (v := 0) hx hb hr (by first | rfl | decide | exact rfl) (fun t ht hW => ⟨⟨0, (), rfl, ⟨hpost, trivial⟩, trivial⟩, hS.F ht⟩) hS.2.2 dX6_isSheet_14
    · skip
      refine lv_iconst (v := 1) hx hb dX6_isSheet_9 (by decide) ?_
      refine lv_goto (tgt := 14) hx hb dX6_isSheet_10 (by decide) ?_
      have hpost : (1 : Int32) = if 0 ≤ i.toInt ∧ i.toInt < 4 then 1 else 0 := by
        have t_c1 := nltI c1
        have t_c2 := nleI c2
        have : (0 : Int32).toInt = 0 := (by decide)
        have : (4 : Int32).toInt = 4 := (by decide)
        first | rfl | ((repeat' split) <;> first | rfl | omega)
      refine W.widen (k := 0) (n := 0) (by omega) (by omega) ?_
      exact W.zret (v := 1) hx hb hr (by first | rfl | decide | exact rfl) (fun t ht hW => ⟨⟨1, (), rfl, ⟨hpost, trivial⟩, trivial⟩, hS.F ht⟩) hS.2.2 dX6_isSheet_14

set_option maxHeartbeats 4000000 in
set_option maxRecDepth 100000 in
theorem c_X6_isLane (l : Launch) (dC : Nat → ClassId) (dI : Nat → Nat → Nat) (G : Nat → ClassId) (sz : Nat) (i : Int32)  : Met l yX6_isLane (Cond.code yX6_isLane cX6_isLane 1 (some .boolean) :: GT) ({ frames := 0, cells := 0, slots := 0, locals := 0 } : Room) (PcR [.int i] dC dI G [] sz) (va_Qi (fun (r : Int32) (u : Unit) => match u with | _ => (r = if 0 ≤ i.toInt ∧ i.toInt ≤ 2 then 1 else 0) ∧ True) (fun _ _ => True) (fun q : Nat => sz ≤ q)) 0 0 (fun q : Nat => sz ≤ q) := by
  refine Met.ofW (cc := cX6_isLane) (maxL := 1) (ret := (some .boolean)) (by decide) rfl ?_
  intro p e s m args below meth c s₁ B hml hv
  obtain ⟨rfl, hsz, hP, hK⟩ := hv
  have hx := B.exec
  have hb := B.bytes
  have hr := B.returns
  have hg : ∀ w ∈ GT, w.before ([.int i] : List Value).toArray s = true := fun w h => atoms_spec (ws := Cond.code yX6_isLane cX6_isLane 1 (some .boolean) :: GT) B.pre w (List.mem_cons_of_mem _ h)
  have hown : s.vm.findClass RX6 = some m.cls := findClass_of_methodNamed B.named
  have hlocks := B.notSynchronized
  subst hsz
  have hA : ∀ q : Nat, s.heap.size ≤ q → (fun q : Nat => s.heap.size ≤ q) q := fun _ h => h
  have hS : va_S (fun q : Nat => s.heap.size ≤ q) s.heap s.heap [] := va_S.rf
  have hl := lv_entry ([.int i]) (n := 1) (Nat.le_of_ble_eq_true rfl)
  rw [lg_entry_eq]
  generalize (lg_sl ([.int i]) ++ List.replicate (1 - (lg_sl ([.int i])).length) Slot.unset).toArray = ls at hl ⊢
  have hl : lv_has ls 1 [(0, .int i)] := hl
  refine lv_iload_n hx hb dX6_isLane_0 rfl (lv_at hl 0 rfl) ?_
  refine lv_if_lt (tgt := 13) hx hb dX6_isLane_1 (by decide) (fun c1 => ?_) (fun c1 => ?_)
  · skip
    refine lv_iconst (v := 0) hx hb dX6_isLane_13 (by decide) ?_
    have hpost : (0 : Int32) = if 0 ≤ i.toInt ∧ i.toInt ≤ 2 then 1 else 0 := by
      have t_c1 := ltI c1
      have : (0 : Int32).toInt = 0 := (by decide)
      first | rfl | ((repeat' split) <;> first | rfl | omega)
    refine W.widen (k := 0) (n := 0) (by omega) (by omega) ?_
    exact W.zret (v := 0) hx hb hr (by first | rfl | decide | exact rfl) (fun t ht hW => ⟨⟨0, (), rfl, ⟨hpost, trivial⟩, trivial⟩, hS.F ht⟩) hS.2.2 dX6_isLane_14
  · skip
    refine lv_iload_n hx hb dX6_isLane_4 rfl (lv_at hl 0 rfl) ?_
    refine lv_iconst (v := 2) hx hb dX6_isLane_5 (by decide) ?_
    refine lv_icmp_gt (tgt := 13) hx hb dX6_isLane_6 (by decide) (fun c2 => ?_) (fun c2 => ?_)
    · skip
      refine lv_iconst (v := 0) hx hb dX6_isLane_13 (by decide) ?_
      have hpost : (0 : Int32) = if 0 ≤ i.toInt ∧ i.toInt ≤ 2 then 1 else 0 := by
        have t_c1 := nltI c1
        have t_c2 := ltI c2
        have : (0 : Int32).toInt = 0 := (by decide)
        have : (2 : Int32).toInt = 2 := (by decide)
        first | rfl | ((repeat' split) <;> first | rfl | omega)
      refine W.widen (k := 0) (n := 0) (by omega) (by omega) ?_
      exact W.zret (v := 0) hx hb hr (by first | rfl | decide | exact rfl) (fun t ht hW => ⟨⟨0, (), rfl, ⟨hpost, trivial⟩, trivial⟩, hS.F ht⟩) hS.2.2 dX6_isLane_14
    · skip
      refine lv_iconst (v := 1) hx hb dX6_isLane_9 (by decide) ?_
      refine lv_goto (tgt := 14) hx hb dX6_isLane_10 (by decide) ?_
      have hpost : (1 : Int32) = if 0 ≤ i.toInt ∧ i.toInt ≤ 2 then 1 else 0 := by
        have t_c1 := nltI c1
        have t_c2 := nltI c2
        have : (0 : Int32).toInt = 0 := (by decide)
        have : (2 : Int32).toInt = 2 := (by decide)
        first | rfl | ((repeat' split) <;> first | rfl | omega)
      refine W.widen (k := 0) (n := 0) (by omega) (by omega) ?_
      exact W.zret (v := 1) hx hb hr (by first | rfl | decide | exact rfl) (fun t ht hW => ⟨⟨1, (), rfl, ⟨hpost, trivial⟩, trivial⟩, hS.F ht⟩) hS.2.2 dX6_isLane_14

set_option maxHeartbeats 4000000 in
set_option maxRecDepth 100000 in
theorem c_X10_commonDivisor (l : Launch) (dC : Nat → ClassId) (dI : Nat → Nat → Nat) (G : Nat → ClassId) (sz : Nat)   : Met l yX10_commonDivisor (Cond.code yX10_commonDivisor cX10_commonDivisor 11 (some .long) :: GT) ({ frames := 0, cells := 0, slots := 0, locals := 0 } : Room) (PcR [.long 0, .long 1] dC dI G [] sz) (va_Ql (fun (r : Int64) (u : Unit) => match u with | _ => (r = 1) ∧ True) (fun _ _ => True) (fun q : Nat => sz ≤ q)) 0 0 (fun q : Nat => sz ≤ q) := by
  refine Met.ofW (cc := cX10_commonDivisor) (maxL := 11) (ret := (some .long)) (by decide) rfl ?_
  intro p e s m args below meth c s₁ B hml hv
  obtain ⟨rfl, hsz, hP, hK⟩ := hv
  have hx := B.exec
  have hb := B.bytes
  have hr := B.returns
  have hg : ∀ w ∈ GT, w.before ([.long 0, .long 1] : List Value).toArray s = true := fun w h => atoms_spec (ws := Cond.code yX10_commonDivisor cX10_commonDivisor 11 (some .long) :: GT) B.pre w (List.mem_cons_of_mem _ h)
  have hown : s.vm.findClass RX10 = some m.cls := findClass_of_methodNamed B.named
  have hlocks := B.notSynchronized
  subst hsz
  have hA : ∀ q : Nat, s.heap.size ≤ q → (fun q : Nat => s.heap.size ≤ q) q := fun _ h => h
  have hS : va_S (fun q : Nat => s.heap.size ≤ q) s.heap s.heap [] := va_S.rf
  have hl := lv_entry ([.long 0, .long 1]) (n := 11) (Nat.le_of_ble_eq_true rfl)
  rw [lg_entry_eq]
  generalize (lg_sl ([.long 0, .long 1]) ++ List.replicate (11 - (lg_sl ([.long 0, .long 1])).length) Slot.unset).toArray = ls at hl ⊢
  have hl : lv_has ls 11 [(0, .long 0), (2, .long 1)] := hl
  refine lv_lload_n hx hb dX10_commonDivisor_0 rfl (lv_at hl 0 rfl) ?_
  refine lv_lstore (lv' := [(4, .long 0), (0, .long 0), (2, .long 1)]) hx hb dX10_commonDivisor_1 hl (by decide) rfl (fun ls hl => ?_)
  refine lv_lload_n hx hb dX10_commonDivisor_3 rfl (lv_at hl 2 rfl) ?_
  refine lv_lstore (lv' := [(6, .long 1), (4, .long 0), (0, .long 0), (2, .long 1)]) hx hb dX10_commonDivisor_4 hl (by decide) rfl (fun ls hl => ?_)
  refine lv_iconst (v := 0) hx hb dX10_commonDivisor_6 (by decide) ?_
  refine lv_istore (lv' := [(8, .int 0), (6, .long 1), (4, .long 0), (0, .long 0), (2, .long 1)]) hx hb dX10_commonDivisor_7 hl (by decide) rfl (fun ls hl => ?_)
  refine lv_iload hx hb dX10_commonDivisor_9 (lv_at hl 0 rfl) ?_
  refine lv_sipush (v := 200) hx hb dX10_commonDivisor_11 (by decide) ?_
  refine lv_icmp_ge (tgt := 45) hx hb dX10_commonDivisor_14 (by decide) (fun c1 => ?_) (fun c1 => ?_)
  · skip
    exact absurd c1 (by decide)
  · skip
    refine lv_lload hx hb dX10_commonDivisor_17 (lv_at hl 1 rfl) ?_
    refine lv_lconst (v := 0) hx hb dX10_commonDivisor_19 (by decide) ?_
    refine W.lcmp hx hb dX10_commonDivisor_20 ?_
    refine lv_cg (y := 1) (by decide) ?_
    refine lv_if_eq (tgt := 45) hx hb dX10_commonDivisor_21 (by decide) (fun c2 => ?_) (fun c2 => ?_)
    · skip
      exact absurd c2 (by decide)
    · skip
      refine lv_lload hx hb dX10_commonDivisor_24 (lv_at hl 2 rfl) ?_
      refine lv_lload hx hb dX10_commonDivisor_26 (lv_at hl 1 rfl) ?_
      refine lv_lrem hx hb dX10_commonDivisor_28 (by decide) ?_
      refine lv_cgl (y := 0) (by decide) ?_
      refine lv_lstore (lv' := [(9, .long 0), (8, .int 0), (6, .long 1), (4, .long 0), (0, .long 0), (2, .long 1)]) hx hb dX10_commonDivisor_29 hl (by decide) rfl (fun ls hl => ?_)
      refine lv_lload hx hb dX10_commonDivisor_31 (lv_at hl 2 rfl) ?_
      refine lv_lstore (lv' := [(4, .long 1), (9, .long 0), (8, .int 0), (6, .long 1), (0, .long 0), (2, .long 1)]) hx hb dX10_commonDivisor_33 hl (by decide) rfl (fun ls hl => ?_)
      refine lv_lload hx hb dX10_commonDivisor_35 (lv_at hl 1 rfl) ?_
      refine lv_lstore (lv' := [(6, .long 0), (4, .long 1), (9, .long 0), (8, .int 0), (0, .long 0), (2, .long 1)]) hx hb dX10_commonDivisor_37 hl (by decide) rfl (fun ls hl => ?_)
      refine lv_iinc (v := 1) (lv' := [(8, .int 1), (6, .long 0), (4, .long 1), (9, .long 0), (0, .long 0), (2, .long 1)]) hx hb dX10_commonDivisor_39 hl (k := 3) rfl (by decide) (by decide) rfl (fun ls hl => ?_)
      refine lv_goto (tgt := 9) hx hb dX10_commonDivisor_42 (by decide) ?_
      refine lv_iload hx hb dX10_commonDivisor_9 (lv_at hl 0 rfl) ?_
      refine lv_sipush (v := 200) hx hb dX10_commonDivisor_11 (by decide) ?_
      refine lv_icmp_ge (tgt := 45) hx hb dX10_commonDivisor_14 (by decide) (fun c3 => ?_) (fun c3 => ?_)
      · skip
        exact absurd c3 (by decide)
      · skip
        refine lv_lload hx hb dX10_commonDivisor_17 (lv_at hl 1 rfl) ?_
        refine lv_lconst (v := 0) hx hb dX10_commonDivisor_19 (by decide) ?_
        refine W.lcmp hx hb dX10_commonDivisor_20 ?_
        refine lv_cg (y := 0) (by decide) ?_
        refine lv_if_eq (tgt := 45) hx hb dX10_commonDivisor_21 (by decide) (fun c4 => ?_) (fun c4 => ?_)
        · skip
          refine lv_lload hx hb dX10_commonDivisor_45 (lv_at hl 2 rfl) ?_
          have hpost : (1 : Int64) = 1 := by
            have t_c1 := nleI c1
            have t_c2 := neI c2
            have t_c3 := nleI c3
            have t_c4 := eqI c4
            have : (0 : Int32).toInt = 0 := (by decide)
            have : (1 : Int32).toInt = 1 := (by decide)
            have : (200 : Int32).toInt = 200 := (by decide)
            first | rfl | ((repeat' split) <;> first | rfl | omega)
          refine W.widen (k := 0) (n := 0) (by omega) (by omega) ?_
          exact W.lret (v := 1) hx hb hr (fun t ht hW => ⟨⟨1, (), rfl, ⟨hpost, trivial⟩, trivial⟩, hS.F ht⟩) hS.2.2 dX10_commonDivisor_47
        · skip
          exact absurd c4 (by decide)

set_option maxHeartbeats 4000000 in
set_option maxRecDepth 100000 in
theorem c_X10_fraction (l : Launch) (dC : Nat → ClassId) (dI : Nat → Nat → Nat) (G : Nat → ClassId) (sz : Nat) (what : Int32)  : Met l yX10_fraction (Cond.code yX10_fraction cX10_fraction 7 (some .long) :: GT) ({ frames := 1, cells := 0, slots := 0, locals := 30 } : Room) (PcR [.long 0, .long 1, .int what] dC dI G [] sz) (va_Ql (fun (r : Int64) (u : Unit) => match u with | _ => (r = if what.toInt = 0 then 0 else 1) ∧ True) (fun _ _ => True) (fun q : Nat => sz ≤ q)) 0 0 (fun q : Nat => sz ≤ q) := by
  refine Met.ofW (cc := cX10_fraction) (maxL := 7) (ret := (some .long)) (by decide) rfl ?_
  intro p e s m args below meth c s₁ B hml hv
  obtain ⟨rfl, hsz, hP, hK⟩ := hv
  have hx := B.exec
  have hb := B.bytes
  have hr := B.returns
  have hg : ∀ w ∈ GT, w.before ([.long 0, .long 1, .int what] : List Value).toArray s = true := fun w h => atoms_spec (ws := Cond.code yX10_fraction cX10_fraction 7 (some .long) :: GT) B.pre w (List.mem_cons_of_mem _ h)
  have hown : s.vm.findClass RX10 = some m.cls := findClass_of_methodNamed B.named
  have hlocks := B.notSynchronized
  subst hsz
  have hA : ∀ q : Nat, s.heap.size ≤ q → (fun q : Nat => s.heap.size ≤ q) q := fun _ h => h
  have hS : va_S (fun q : Nat => s.heap.size ≤ q) s.heap s.heap [] := va_S.rf
  have hl := lv_entry ([.long 0, .long 1, .int what]) (n := 7) (Nat.le_of_ble_eq_true rfl)
  rw [lg_entry_eq]
  generalize (lg_sl ([.long 0, .long 1, .int what]) ++ List.replicate (7 - (lg_sl ([.long 0, .long 1, .int what])).length) Slot.unset).toArray = ls at hl ⊢
  have hl : lv_has ls 7 [(0, .long 0), (2, .long 1), (4, .int what)] := hl
  refine lv_lload_n hx hb dX10_fraction_0 rfl (lv_at hl 0 rfl) ?_
  refine lv_lload_n hx hb dX10_fraction_1 rfl (lv_at hl 1 rfl) ?_
  have hPc := hP.sub (ws' := []) [] rfl
  refine va_calll (va_runS (As := [.long 0, .long 1]) (rest := []) ⟨hx, hb, hml, hown, hg⟩ (c_X10_commonDivisor l dC dI G _  ) (kwS hg mfX10_commonDivisor wt_638 ⟨Nat.le_of_ble_eq_true rfl, Nat.le_of_ble_eq_true rfl⟩) (preSR hK hPc) rfl rfl hl.1 rfl (lv_room (Nat.le_of_ble_eq_true rfl)) dX10_fraction_2 ⟨Nat.le_of_ble_eq_true rfl, Nat.le_of_ble_eq_true rfl⟩) hS (fun q h1 h2 => absurd h2 (Nat.not_le.mpr h1)) (fun q h => hA q (Nat.le_trans hS.1 h)) (fun r1 ur1 t H1 locs ht hvm w2 hB hz1 hk1 hS => ?_)
  have hP := keepR hP hk1
  obtain ⟨w2, w2x⟩ := w2
  subst w2
  refine lv_lstore (lv' := [(5, .long 1), (0, .long 0), (2, .long 1), (4, .int what)]) hx hb dX10_fraction_5 hl (by decide) rfl (fun ls hl => ?_)
  refine lv_lload hx hb dX10_fraction_7 (lv_at hl 0 rfl) ?_
  refine lv_lconst (v := 0) hx hb dX10_fraction_9 (by decide) ?_
  refine W.lcmp hx hb dX10_fraction_10 ?_
  refine lv_cg (y := 1) (by decide) ?_
  refine lv_if_ne (tgt := 18) hx hb dX10_fraction_11 (by decide) (fun c3 => ?_) (fun c3 => ?_)
  · skip
    refine lv_iload hx hb dX10_fraction_18 (lv_at hl 3 rfl) ?_
    refine lv_if_ne (tgt := 27) hx hb dX10_fraction_20 (by decide) (fun c4 => ?_) (fun c4 => ?_)
    · skip
      refine lv_lload_n hx hb dX10_fraction_27 rfl (lv_at hl 2 rfl) ?_
      refine lv_lload hx hb dX10_fraction_28 (lv_at hl 0 rfl) ?_
      refine lv_ldiv hx hb dX10_fraction_30 (by decide) ?_
      refine lv_cgl (y := 1) (by decide) ?_
      have hpost : (1 : Int64) = if what.toInt = 0 then 0 else 1 := by
        have t_c3 := neI c3
        have t_c4 := neI c4
        have : (0 : Int32).toInt = 0 := (by decide)
        have : (1 : Int32).toInt = 1 := (by decide)
        first | rfl | ((repeat' split) <;> first | rfl | omega)
      refine W.widen (k := 0) (n := 0) (by omega) (by omega) ?_
      exact W.lret (v := 1) hx hb hr (fun t ht hW => ⟨⟨1, (), rfl, ⟨hpost, trivial⟩, trivial⟩, hS.F ht⟩) hS.2.2 dX10_fraction_31
    · skip
      refine lv_lload_n hx hb dX10_fraction_23 rfl (lv_at hl 1 rfl) ?_
      refine lv_goto (tgt := 28) hx hb dX10_fraction_24 (by decide) ?_
      refine lv_lload hx hb dX10_fraction_28 (lv_at hl 0 rfl) ?_
      refine lv_ldiv hx hb dX10_fraction_30 (by decide) ?_
      refine lv_cgl (y := 0) (by decide) ?_
      have hpost : (0 : Int64) = if what.toInt = 0 then 0 else 1 := by
        have t_c3 := neI c3
        have t_c4 := eqI c4
        have : (0 : Int32).toInt = 0 := (by decide)
        have : (1 : Int32).toInt = 1 := (by decide)
        first | rfl | ((repeat' split) <;> first | rfl | omega)
      refine W.widen (k := 0) (n := 0) (by omega) (by omega) ?_
      exact W.lret (v := 0) hx hb hr (fun t ht hW => ⟨⟨0, (), rfl, ⟨hpost, trivial⟩, trivial⟩, hS.F ht⟩) hS.2.2 dX10_fraction_31
  · skip
    exact absurd c3 (by decide)

set_option maxHeartbeats 4000000 in
set_option maxRecDepth 100000 in
theorem c_X4_begin (l : Launch) (dC : Nat → ClassId) (dI : Nat → Nat → Nat) (G : Nat → ClassId) (sz : Nat) (h0 sa aa : Nat) (w0 : Int64) (f : Nat → Int64)  : Met l yX4_begin (Cond.code yX4_begin cX4_begin 3 none :: GT) ({ frames := 0, cells := 0, slots := 0, locals := 0 } : Room) (PcW [.ref h0, .int 5] dC dI G [(h0, .inr (4, [.long w0, .ref sa, .ref aa])), (sa, .inl (G 1, 10, .inr (.inl f)))] sz) (va_Qv (fun (u : Nat → Int64) => match u with | u => u 0 = 0) (fun (u : Nat → Int64) (t : State) => match u with | u => va_P (dC, dI) vwCl [(h0, .inr (4, [.long 1, .ref sa, .ref aa])), (sa, .inl (G 1, 10, .inr (.inl u)))] t.heap ∧ va_D (va_A [(h0, .inr (4, [.long w0, .ref sa, .ref aa])), (sa, .inl (G 1, 10, .inr (.inl f)))] sz) [(h0, .inr (4, [.long 1, .ref sa, .ref aa])), (sa, .inl (G 1, 10, .inr (.inl u)))]) (va_A [(h0, .inr (4, [.long w0, .ref sa, .ref aa])), (sa, .inl (G 1, 10, .inr (.inl f)))] sz)) 0 0 (va_A [(h0, .inr (4, [.long w0, .ref sa, .ref aa])), (sa, .inl (G 1, 10, .inr (.inl f)))] sz) := by
  refine Met.ofW (cc := cX4_begin) (maxL := 3) (ret := none) (by decide) rfl ?_
  intro p e s m args below meth c s₁ B hml hv
  obtain ⟨rfl, hsz, hP, hK, hD0⟩ := hv
  have hx := B.exec
  have hb := B.bytes
  have hr := B.returns
  have hg : ∀ w ∈ GT, w.before ([.ref h0, .int 5] : List Value).toArray s = true := fun w h => atoms_spec (ws := Cond.code yX4_begin cX4_begin 3 none :: GT) B.pre w (List.mem_cons_of_mem _ h)
  have hown : s.vm.findClass RX4 = some m.cls := findClass_of_methodNamed B.named
  have hlocks := B.notSynchronized
  subst hsz
  have hD := hD0.self (sz := s.heap.size)
  generalize hAe : va_A [(h0, .inr (4, [.long w0, .ref sa, .ref aa])), (sa, .inl (G 1, 10, .inr (.inl f)))] s.heap.size = A at hD ⊢
  have hA : ∀ q : Nat, s.heap.size ≤ q → A q := fun q h => by rw [← hAe]; exact Or.inr h
  have hS : va_S A s.heap s.heap [] := va_S.rf
  have hl := lv_entry ([.ref h0, .int 5]) (n := 3) (Nat.le_of_ble_eq_true rfl)
  rw [lg_entry_eq]
  generalize (lg_sl ([.ref h0, .int 5]) ++ List.replicate (3 - (lg_sl ([.ref h0, .int 5])).length) Slot.unset).toArray = ls at hl ⊢
  have hl : lv_has ls 3 [(0, .ref h0), (1, .int 5)] := hl
  refine lv_aload_n hx hb dX4_begin_0 rfl (lv_at hl 0 rfl) ?_
  refine lv_lconst (v := 1) hx hb dX4_begin_1 (by decide) ?_
  refine va_put (D := (dC, dI)) (ci := 4) (v := .long 1) (ty := .long) (C := RX4) (T := TX4) (N := 3) hx hb hg inG4 tyX4 tyX4_ok nmX4 hown hK.1 hP hD hS 0 rfl rfl 0 (by decide) (hg _ wt_156) (fun _ h9 => h9) rfl (by decide +kernel) rfl rfl (Nat.le_of_ble_eq_true rfl) dX4_begin_2 (fun H locs hP hD hS => ?_)
  have hP : va_P (dC, dI) vwCl [(h0, .inr (4, [.long 1, .ref sa, .ref aa])), (sa, .inl (G 1, 10, .inr (.inl f)))] H := hP
  have hD : va_D A [(h0, .inr (4, [.long 1, .ref sa, .ref aa])), (sa, .inl (G 1, 10, .inr (.inl f)))] := hD
  refine lv_iconst (v := 0) hx hb dX4_begin_5 (by decide) ?_
  refine lv_istore_n (lv' := [(2, .int 0), (0, .ref h0), (1, .int 5)]) hx hb dX4_begin_6 rfl hl (by decide) rfl (fun ls hl => ?_)
  refine lv_iload_n hx hb dX4_begin_7 rfl (lv_at hl 0 rfl) ?_
  refine lv_bipush (v := 10) hx hb dX4_begin_8 (by decide) ?_
  refine lv_icmp_ge (tgt := 35) hx hb dX4_begin_10 (by decide) (fun c1 => ?_) (fun c1 => ?_)
  · skip
    exact absurd c1 (by decide)
  · skip
    refine lv_aload_n hx hb dX4_begin_13 rfl (lv_at hl 1 rfl) ?_
    refine va_get (D := (dC, dI)) (ci := 4) (v := .ref sa) (C := RX4) (T := TX4) (N := 3) hx hb hg inG4 hown hK.1 hP 0 rfl rfl 1 (by decide) (hg _ wt_158) (fun _ h9 => h9) rfl dX4_begin_14 ?_
    refine lv_iload_n hx hb dX4_begin_17 rfl (lv_at hl 0 rfl) ?_
    refine lv_iload_n hx hb dX4_begin_18 rfl (lv_at hl 0 rfl) ?_
    refine lv_iload_n hx hb dX4_begin_19 rfl (lv_at hl 2 rfl) ?_
    refine lv_icmp_ne (tgt := 27) hx hb dX4_begin_20 (by decide) (fun c2 => ?_) (fun c2 => ?_)
    · skip
      refine lv_lconst (v := 0) hx hb dX4_begin_27 (by decide) ?_
      refine va_last hx hb hK.1 hP hD hS 1 1 rfl rfl (vp_in_iff.mpr ⟨by decide, by decide⟩) dX4_begin_28 (fun H locs hP hD hS => ?_)
      have hP : va_P (dC, dI) vwCl [(h0, .inr (4, [.long 1, .ref sa, .ref aa])), (sa, .inl (G 1, 10, .inr (.inl (vp_updL f 0 0))))] H := hP
      have hD : va_D A [(h0, .inr (4, [.long 1, .ref sa, .ref aa])), (sa, .inl (G 1, 10, .inr (.inl (vp_updL f 0 0))))] := hD
      refine lv_iinc (v := 1) (lv' := [(2, .int 1), (0, .ref h0), (1, .int 5)]) hx hb dX4_begin_29 hl (k := 0) rfl (by decide) (by decide) rfl (fun ls hl => ?_)
      refine lv_goto (tgt := 7) hx hb dX4_begin_32 (by decide) ?_
      refine lv_iload_n hx hb dX4_begin_7 rfl (lv_at hl 0 rfl) ?_
      refine lv_bipush (v := 10) hx hb dX4_begin_8 (by decide) ?_
      refine lv_icmp_ge (tgt := 35) hx hb dX4_begin_10 (by decide) (fun c3 => ?_) (fun c3 => ?_)
      · skip
        exact absurd c3 (by decide)
      · skip
        refine lv_aload_n hx hb dX4_begin_13 rfl (lv_at hl 1 rfl) ?_
        refine va_get (D := (dC, dI)) (ci := 4) (v := .ref sa) (C := RX4) (T := TX4) (N := 3) hx hb hg inG4 hown hK.1 hP 0 rfl rfl 1 (by decide) (hg _ wt_158) (fun _ h9 => h9) rfl dX4_begin_14 ?_
        refine lv_iload_n hx hb dX4_begin_17 rfl (lv_at hl 0 rfl) ?_
        refine lv_iload_n hx hb dX4_begin_18 rfl (lv_at hl 0 rfl) ?_
        refine lv_iload_n hx hb dX4_begin_19 rfl (lv_at hl 2 rfl) ?_
        refine lv_icmp_ne (tgt := 27) hx hb dX4_begin_20 (by decide) (fun c4 => ?_) (fun c4 => ?_)
        · skip
          refine lv_lconst (v := 0) hx hb dX4_begin_27 (by decide) ?_
          refine va_last hx hb hK.1 hP hD hS 1 1 rfl rfl (vp_in_iff.mpr ⟨by decide, by decide⟩) dX4_begin_28 (fun H locs hP hD hS => ?_)
          have hP : va_P (dC, dI) vwCl [(h0, .inr (4, [.long 1, .ref sa, .ref aa])), (sa, .inl (G 1, 10, .inr (.inl (vp_updL (vp_updL f 0 0) 1 0))))] H := hP
          have hD : va_D A [(h0, .inr (4, [.long 1, .ref sa, .ref aa])), (sa, .inl (G 1, 10, .inr (.inl (vp_updL (vp_updL f 0 0) 1 0))))] := hD
          refine lv_iinc (v := 2) (lv' := [(2, .int 2), (0, .ref h0), (1, .int 5)]) hx hb dX4_begin_29 hl (k := 0) rfl (by decide) (by decide) rfl (fun ls hl => ?_)
          refine lv_goto (tgt := 7) hx hb dX4_begin_32 (by decide) ?_
          refine lv_iload_n hx hb dX4_begin_7 rfl (lv_at hl 0 rfl) ?_
          refine lv_bipush (v := 10) hx hb dX4_begin_8 (by decide) ?_
          refine lv_icmp_ge (tgt := 35) hx hb dX4_begin_10 (by decide) (fun c5 => ?_) (fun c5 => ?_)
          · skip
            exact absurd c5 (by decide)
          · skip
            refine lv_aload_n hx hb dX4_begin_13 rfl (lv_at hl 1 rfl) ?_
            refine va_get (D := (dC, dI)) (ci := 4) (v := .ref sa) (C := RX4) (T := TX4) (N := 3) hx hb hg inG4 hown hK.1 hP 0 rfl rfl 1 (by decide) (hg _ wt_158) (fun _ h9 => h9) rfl dX4_begin_14 ?_
            refine lv_iload_n hx hb dX4_begin_17 rfl (lv_at hl 0 rfl) ?_
            refine lv_iload_n hx hb dX4_begin_18 rfl (lv_at hl 0 rfl) ?_
            refine lv_iload_n hx hb dX4_begin_19 rfl (lv_at hl 2 rfl) ?_
            refine lv_icmp_ne (tgt := 27) hx hb dX4_begin_20 (by decide) (fun c6 => ?_) (fun c6 => ?_)
            · skip
              refine lv_lconst (v := 0) hx hb dX4_begin_27 (by decide) ?_
              refine va_last hx hb hK.1 hP hD hS 1 1 rfl rfl (vp_in_iff.mpr ⟨by decide, by decide⟩) dX4_begin_28 (fun H locs hP hD hS => ?_)
              have hP : va_P (dC, dI) vwCl [(h0, .inr (4, [.long 1, .ref sa, .ref aa])), (sa, .inl (G 1, 10, .inr (.inl (vp_updL (vp_updL (vp_updL f 0 0) 1 0) 2 0))))] H := hP
              have hD : va_D A [(h0, .inr (4, [.long 1, .ref sa, .ref aa])), (sa, .inl (G 1, 10, .inr (.inl (vp_updL (vp_updL (vp_updL f 0 0) 1 0) 2 0))))] := hD
              refine lv_iinc (v := 3) (lv' := [(2, .int 3), (0, .ref h0), (1, .int 5)]) hx hb dX4_begin_29 hl (k := 0) rfl (by decide) (by decide) rfl (fun ls hl => ?_)
              refine lv_goto (tgt := 7) hx hb dX4_begin_32 (by decide) ?_
              refine lv_iload_n hx hb dX4_begin_7 rfl (lv_at hl 0 rfl) ?_
              refine lv_bipush (v := 10) hx hb dX4_begin_8 (by decide) ?_
              refine lv_icmp_ge (tgt := 35) hx hb dX4_begin_10 (by decide) (fun c7 => ?_) (fun c7 => ?_)
              · skip
                exact absurd c7 (by decide)
              · skip
                refine lv_aload_n hx hb dX4_begin_13 rfl (lv_at hl 1 rfl) ?_
                refine va_get (D := (dC, dI)) (ci := 4) (v := .ref sa) (C := RX4) (T := TX4) (N := 3) hx hb hg inG4 hown hK.1 hP 0 rfl rfl 1 (by decide) (hg _ wt_158) (fun _ h9 => h9) rfl dX4_begin_14 ?_
                refine lv_iload_n hx hb dX4_begin_17 rfl (lv_at hl 0 rfl) ?_
                refine lv_iload_n hx hb dX4_begin_18 rfl (lv_at hl 0 rfl) ?_
                refine lv_iload_n hx hb dX4_begin_19 rfl (lv_at hl 2 rfl) ?_
                refine lv_icmp_ne (tgt := 27) hx hb dX4_begin_20 (by decide) (fun c8 => ?_) (fun c8 => ?_)
                · skip
                  refine lv_lconst (v := 0) hx hb dX4_begin_27 (by decide) ?_
                  refine va_last hx hb hK.1 hP hD hS 1 1 rfl rfl (vp_in_iff.mpr ⟨by decide, by decide⟩) dX4_begin_28 (fun H locs hP hD hS => ?_)
                  have hP : va_P (dC, dI) vwCl [(h0, .inr (4, [.long 1, .ref sa, .ref aa])), (sa, .inl (G 1, 10, .inr (.inl (vp_updL (vp_updL (vp_updL (vp_updL f 0 0) 1 0) 2 0) 3 0))))] H := hP
                  have hD : va_D A [(h0, .inr (4, [.long 1, .ref sa, .ref aa])), (sa, .inl (G 1, 10, .inr (.inl (vp_updL (vp_updL (vp_updL (vp_updL f 0 0) 1 0) 2 0) 3 0))))] := hD
                  refine lv_iinc (v := 4) (lv' := [(2, .int 4), (0, .ref h0), (1, .int 5)]) hx hb dX4_begin_29 hl (k := 0) rfl (by decide) (by decide) rfl (fun ls hl => ?_)
                  refine lv_goto (tgt := 7) hx hb dX4_begin_32 (by decide) ?_
                  refine lv_iload_n hx hb dX4_begin_7 rfl (lv_at hl 0 rfl) ?_
                  refine lv_bipush (v := 10) hx hb dX4_begin_8 (by decide) ?_
                  refine lv_icmp_ge (tgt := 35) hx hb dX4_begin_10 (by decide) (fun c9 => ?_) (fun c9 => ?_)
                  · skip
                    exact absurd c9 (by decide)
                  · skip
                    refine lv_aload_n hx hb dX4_begin_13 rfl (lv_at hl 1 rfl) ?_
                    refine va_get (D := (dC, dI)) (ci := 4) (v := .ref sa) (C := RX4) (T := TX4) (N := 3) hx hb hg inG4 hown hK.1 hP 0 rfl rfl 1 (by decide) (hg _ wt_158) (fun _ h9 => h9) rfl dX4_begin_14 ?_
                    refine lv_iload_n hx hb dX4_begin_17 rfl (lv_at hl 0 rfl) ?_
                    refine lv_iload_n hx hb dX4_begin_18 rfl (lv_at hl 0 rfl) ?_
                    refine lv_iload_n hx hb dX4_begin_19 rfl (lv_at hl 2 rfl) ?_
                    refine lv_icmp_ne (tgt := 27) hx hb dX4_begin_20 (by decide) (fun c10 => ?_) (fun c10 => ?_)
                    · skip
                      refine lv_lconst (v := 0) hx hb dX4_begin_27 (by decide) ?_
                      refine va_last hx hb hK.1 hP hD hS 1 1 rfl rfl (vp_in_iff.mpr ⟨by decide, by decide⟩) dX4_begin_28 (fun H locs hP hD hS => ?_)
                      have hP : va_P (dC, dI) vwCl [(h0, .inr (4, [.long 1, .ref sa, .ref aa])), (sa, .inl (G 1, 10, .inr (.inl (vp_updL (vp_updL (vp_updL (vp_updL (vp_updL f 0 0) 1 0) 2 0) 3 0) 4 0))))] H := hP
                      have hD : va_D A [(h0, .inr (4, [.long 1, .ref sa, .ref aa])), (sa, .inl (G 1, 10, .inr (.inl (vp_updL (vp_updL (vp_updL (vp_updL (vp_updL f 0 0) 1 0) 2 0) 3 0) 4 0))))] := hD
                      refine lv_iinc (v := 5) (lv' := [(2, .int 5), (0, .ref h0), (1, .int 5)]) hx hb dX4_begin_29 hl (k := 0) rfl (by decide) (by decide) rfl (fun ls hl => ?_)
                      refine lv_goto (tgt := 7) hx hb dX4_begin_32 (by decide) ?_
                      refine lv_iload_n hx hb dX4_begin_7 rfl (lv_at hl 0 rfl) ?_
                      refine lv_bipush (v := 10) hx hb dX4_begin_8 (by decide) ?_
                      refine lv_icmp_ge (tgt := 35) hx hb dX4_begin_10 (by decide) (fun c11 => ?_) (fun c11 => ?_)
                      · skip
                        exact absurd c11 (by decide)
                      · skip
                        refine lv_aload_n hx hb dX4_begin_13 rfl (lv_at hl 1 rfl) ?_
                        refine va_get (D := (dC, dI)) (ci := 4) (v := .ref sa) (C := RX4) (T := TX4) (N := 3) hx hb hg inG4 hown hK.1 hP 0 rfl rfl 1 (by decide) (hg _ wt_158) (fun _ h9 => h9) rfl dX4_begin_14 ?_
                        refine lv_iload_n hx hb dX4_begin_17 rfl (lv_at hl 0 rfl) ?_
                        refine lv_iload_n hx hb dX4_begin_18 rfl (lv_at hl 0 rfl) ?_
                        refine lv_iload_n hx hb dX4_begin_19 rfl (lv_at hl 2 rfl) ?_
                        refine lv_icmp_ne (tgt := 27) hx hb dX4_begin_20 (by decide) (fun c12 => ?_) (fun c12 => ?_)
                        · skip
                          exact absurd c12 (by decide)
                        · skip
                          refine lv_lconst (v := 1) hx hb dX4_begin_23 (by decide) ?_
                          refine lv_goto (tgt := 28) hx hb dX4_begin_24 (by decide) ?_
                          refine va_last hx hb hK.1 hP hD hS 1 1 rfl rfl (vp_in_iff.mpr ⟨by decide, by decide⟩) dX4_begin_28 (fun H locs hP hD hS => ?_)
                          have hP : va_P (dC, dI) vwCl [(h0, .inr (4, [.long 1, .ref sa, .ref aa])), (sa, .inl (G 1, 10, .inr (.inl (vp_updL (vp_updL (vp_updL (vp_updL (vp_updL (vp_updL f 0 0) 1 0) 2 0) 3 0) 4 0) 5 1))))] H := hP
                          have hD : va_D A [(h0, .inr (4, [.long 1, .ref sa, .ref aa])), (sa, .inl (G 1, 10, .inr (.inl (vp_updL (vp_updL (vp_updL (vp_updL (vp_updL (vp_updL f 0 0) 1 0) 2 0) 3 0) 4 0) 5 1))))] := hD
                          refine lv_iinc (v := 6) (lv' := [(2, .int 6), (0, .ref h0), (1, .int 5)]) hx hb dX4_begin_29 hl (k := 0) rfl (by decide) (by decide) rfl (fun ls hl => ?_)
                          refine lv_goto (tgt := 7) hx hb dX4_begin_32 (by decide) ?_
                          refine lv_iload_n hx hb dX4_begin_7 rfl (lv_at hl 0 rfl) ?_
                          refine lv_bipush (v := 10) hx hb dX4_begin_8 (by decide) ?_
                          refine lv_icmp_ge (tgt := 35) hx hb dX4_begin_10 (by decide) (fun c13 => ?_) (fun c13 => ?_)
                          · skip
                            exact absurd c13 (by decide)
                          · skip
                            refine lv_aload_n hx hb dX4_begin_13 rfl (lv_at hl 1 rfl) ?_
                            refine va_get (D := (dC, dI)) (ci := 4) (v := .ref sa) (C := RX4) (T := TX4) (N := 3) hx hb hg inG4 hown hK.1 hP 0 rfl rfl 1 (by decide) (hg _ wt_158) (fun _ h9 => h9) rfl dX4_begin_14 ?_
                            refine lv_iload_n hx hb dX4_begin_17 rfl (lv_at hl 0 rfl) ?_
                            refine lv_iload_n hx hb dX4_begin_18 rfl (lv_at hl 0 rfl) ?_
                            refine lv_iload_n hx hb dX4_begin_19 rfl (lv_at hl 2 rfl) ?_
                            refine lv_icmp_ne (tgt := 27) hx hb dX4_begin_20 (by decide) (fun c14 => ?_) (fun c14 => ?_)
                            · skip
                              refine lv_lconst (v := 0) hx hb dX4_begin_27 (by decide) ?_
                              refine va_last hx hb hK.1 hP hD hS 1 1 rfl rfl (vp_in_iff.mpr ⟨by decide, by decide⟩) dX4_begin_28 (fun H locs hP hD hS => ?_)
                              have hP : va_P (dC, dI) vwCl [(h0, .inr (4, [.long 1, .ref sa, .ref aa])), (sa, .inl (G 1, 10, .inr (.inl (vp_updL (vp_updL (vp_updL (vp_updL (vp_updL (vp_updL (vp_updL f 0 0) 1 0) 2 0) 3 0) 4 0) 5 1) 6 0))))] H := hP
                              have hD : va_D A [(h0, .inr (4, [.long 1, .ref sa, .ref aa])), (sa, .inl (G 1, 10, .inr (.inl (vp_updL (vp_updL (vp_updL (vp_updL (vp_updL (vp_updL (vp_updL f 0 0) 1 0) 2 0) 3 0) 4 0) 5 1) 6 0))))] := hD
                              refine lv_iinc (v := 7) (lv' := [(2, .int 7), (0, .ref h0), (1, .int 5)]) hx hb dX4_begin_29 hl (k := 0) rfl (by decide) (by decide) rfl (fun ls hl => ?_)
                              refine lv_goto (tgt := 7) hx hb dX4_begin_32 (by decide) ?_
                              refine lv_iload_n hx hb dX4_begin_7 rfl (lv_at hl 0 rfl) ?_
                              refine lv_bipush (v := 10) hx hb dX4_begin_8 (by decide) ?_
                              refine lv_icmp_ge (tgt := 35) hx hb dX4_begin_10 (by decide) (fun c15 => ?_) (fun c15 => ?_)
                              · skip
                                exact absurd c15 (by decide)
                              · skip
                                refine lv_aload_n hx hb dX4_begin_13 rfl (lv_at hl 1 rfl) ?_
                                refine va_get (D := (dC, dI)) (ci := 4) (v := .ref sa) (C := RX4) (T := TX4) (N := 3) hx hb hg inG4 hown hK.1 hP 0 rfl rfl 1 (by decide) (hg _ wt_158) (fun _ h9 => h9) rfl dX4_begin_14 ?_
                                refine lv_iload_n hx hb dX4_begin_17 rfl (lv_at hl 0 rfl) ?_
                                refine lv_iload_n hx hb dX4_begin_18 rfl (lv_at hl 0 rfl) ?_
                                refine lv_iload_n hx hb dX4_begin_19 rfl (lv_at hl 2 rfl) ?_
                                refine lv_icmp_ne (tgt := 27) hx hb dX4_begin_20 (by decide) (fun c16 => ?_) (fun c16 => ?_)
                                · skip
                                  refine lv_lconst (v := 0) hx hb dX4_begin_27 (by decide) ?_
                                  refine va_last hx hb hK.1 hP hD hS 1 1 rfl rfl (vp_in_iff.mpr ⟨by decide, by decide⟩) dX4_begin_28 (fun H locs hP hD hS => ?_)
                                  have hP : va_P (dC, dI) vwCl [(h0, .inr (4, [.long 1, .ref sa, .ref aa])), (sa, .inl (G 1, 10, .inr (.inl (vp_updL (vp_updL (vp_updL (vp_updL (vp_updL (vp_updL (vp_updL (vp_updL f 0 0) 1 0) 2 0) 3 0) 4 0) 5 1) 6 0) 7 0))))] H := hP
                                  have hD : va_D A [(h0, .inr (4, [.long 1, .ref sa, .ref aa])), (sa, .inl (G 1, 10, .inr (.inl (vp_updL (vp_updL (vp_updL (vp_updL (vp_updL (vp_updL (vp_updL (vp_updL f 0 0) 1 0) 2 0) 3 0) 4 0) 5 1) 6 0) 7 0))))] := hD
                                  refine lv_iinc (v := 8) (lv' := [(2, .int 8), (0, .ref h0), (1, .int 5)]) hx hb dX4_begin_29 hl (k := 0) rfl (by decide) (by decide) rfl (fun ls hl => ?_)
                                  refine lv_goto (tgt := 7) hx hb dX4_begin_32 (by decide) ?_
                                  refine lv_iload_n hx hb dX4_begin_7 rfl (lv_at hl 0 rfl) ?_
                                  refine lv_bipush (v := 10) hx hb dX4_begin_8 (by decide) ?_
                                  refine lv_icmp_ge (tgt := 35) hx hb dX4_begin_10 (by decide) (fun c17 => ?_) (fun c17 => ?_)
                                  · skip
                                    exact absurd c17 (by decide)
                                  · skip
                                    refine lv_aload_n hx hb dX4_begin_13 rfl (lv_at hl 1 rfl) ?_
                                    refine va_get (D := (dC, dI)) (ci := 4) (v := .ref sa) (C := RX4) (T := TX4) (N := 3) hx hb hg inG4 hown hK.1 hP 0 rfl rfl 1 (by decide) (hg _ wt_158) (fun _ h9 => h9) rfl dX4_begin_14 ?_
                                    refine lv_iload_n hx hb dX4_begin_17 rfl (lv_at hl 0 rfl) ?_
                                    refine lv_iload_n hx hb dX4_begin_18 rfl (lv_at hl 0 rfl) ?_
                                    refine lv_iload_n hx hb dX4_begin_19 rfl (lv_at hl 2 rfl) ?_
                                    refine lv_icmp_ne (tgt := 27) hx hb dX4_begin_20 (by decide) (fun c18 => ?_) (fun c18 => ?_)
                                    · skip
                                      refine lv_lconst (v := 0) hx hb dX4_begin_27 (by decide) ?_
                                      refine va_last hx hb hK.1 hP hD hS 1 1 rfl rfl (vp_in_iff.mpr ⟨by decide, by decide⟩) dX4_begin_28 (fun H locs hP hD hS => ?_)
                                      have hP : va_P (dC, dI) vwCl [(h0, .inr (4, [.long 1, .ref sa, .ref aa])), (sa, .inl (G 1, 10, .inr (.inl (vp_updL (vp_updL (vp_updL (vp_updL (vp_updL (vp_updL (vp_updL (vp_updL (vp_updL f 0 0) 1 0) 2 0) 3 0) 4 0) 5 1) 6 0) 7 0) 8 0))))] H := hP
                                      have hD : va_D A [(h0, .inr (4, [.long 1, .ref sa, .ref aa])), (sa, .inl (G 1, 10, .inr (.inl (vp_updL (vp_updL (vp_updL (vp_updL (vp_updL (vp_updL (vp_updL (vp_updL (vp_updL f 0 0) 1 0) 2 0) 3 0) 4 0) 5 1) 6 0) 7 0) 8 0))))] := hD
                                      refine lv_iinc (v := 9) (lv' := [(2, .int 9), (0, .ref h0), (1, .int 5)]) hx hb dX4_begin_29 hl (k := 0) rfl (by decide) (by decide) rfl (fun ls hl => ?_)
                                      refine lv_goto (tgt := 7) hx hb dX4_begin_32 (by decide) ?_
                                      refine lv_iload_n hx hb dX4_begin_7 rfl (lv_at hl 0 rfl) ?_
                                      refine lv_bipush (v := 10) hx hb dX4_begin_8 (by decide) ?_
                                      refine lv_icmp_ge (tgt := 35) hx hb dX4_begin_10 (by decide) (fun c19 => ?_) (fun c19 => ?_)
                                      · skip
                                        exact absurd c19 (by decide)
                                      · skip
                                        refine lv_aload_n hx hb dX4_begin_13 rfl (lv_at hl 1 rfl) ?_
                                        refine va_get (D := (dC, dI)) (ci := 4) (v := .ref sa) (C := RX4) (T := TX4) (N := 3) hx hb hg inG4 hown hK.1 hP 0 rfl rfl 1 (by decide) (hg _ wt_158) (fun _ h9 => h9) rfl dX4_begin_14 ?_
                                        refine lv_iload_n hx hb dX4_begin_17 rfl (lv_at hl 0 rfl) ?_
                                        refine lv_iload_n hx hb dX4_begin_18 rfl (lv_at hl 0 rfl) ?_
                                        refine lv_iload_n hx hb dX4_begin_19 rfl (lv_at hl 2 rfl) ?_
                                        refine lv_icmp_ne (tgt := 27) hx hb dX4_begin_20 (by decide) (fun c20 => ?_) (fun c20 => ?_)
                                        · skip
                                          refine lv_lconst (v := 0) hx hb dX4_begin_27 (by decide) ?_
                                          refine va_last hx hb hK.1 hP hD hS 1 1 rfl rfl (vp_in_iff.mpr ⟨by decide, by decide⟩) dX4_begin_28 (fun H locs hP hD hS => ?_)
                                          have hP : va_P (dC, dI) vwCl [(h0, .inr (4, [.long 1, .ref sa, .ref aa])), (sa, .inl (G 1, 10, .inr (.inl (vp_updL (vp_updL (vp_updL (vp_updL (vp_updL (vp_updL (vp_updL (vp_updL (vp_updL (vp_updL f 0 0) 1 0) 2 0) 3 0) 4 0) 5 1) 6 0) 7 0) 8 0) 9 0))))] H := hP
                                          have hD : va_D A [(h0, .inr (4, [.long 1, .ref sa, .ref aa])), (sa, .inl (G 1, 10, .inr (.inl (vp_updL (vp_updL (vp_updL (vp_updL (vp_updL (vp_updL (vp_updL (vp_updL (vp_updL (vp_updL f 0 0) 1 0) 2 0) 3 0) 4 0) 5 1) 6 0) 7 0) 8 0) 9 0))))] := hD
                                          refine lv_iinc (v := 10) (lv' := [(2, .int 10), (0, .ref h0), (1, .int 5)]) hx hb dX4_begin_29 hl (k := 0) rfl (by decide) (by decide) rfl (fun ls hl => ?_)
                                          refine lv_goto (tgt := 7) hx hb dX4_begin_32 (by decide) ?_
                                          refine lv_iload_n hx hb dX4_begin_7 rfl (lv_at hl 0 rfl) ?_
                                          refine lv_bipush (v := 10) hx hb dX4_begin_8 (by decide) ?_
                                          refine lv_icmp_ge (tgt := 35) hx hb dX4_begin_10 (by decide) (fun c21 => ?_) (fun c21 => ?_)
                                          · skip
                                            have hP9 := hP.sub (ws' := [(h0, .inr (4, [.long 1, .ref sa, .ref aa])), (sa, .inl (G 1, 10, .inr (.inl (vp_updL (vp_updL (vp_updL (vp_updL (vp_updL (vp_updL (vp_updL (vp_updL (vp_updL (vp_updL f 0 0) 1 0) 2 0) 3 0) 4 0) 5 1) 6 0) 7 0) 8 0) 9 0))))]) [0, 1] rfl
                                            have hD9 := hD.sub (ws' := [(h0, .inr (4, [.long 1, .ref sa, .ref aa])), (sa, .inl (G 1, 10, .inr (.inl (vp_updL (vp_updL (vp_updL (vp_updL (vp_updL (vp_updL (vp_updL (vp_updL (vp_updL (vp_updL f 0 0) 1 0) 2 0) 3 0) 4 0) 5 1) 6 0) 7 0) 8 0) 9 0))))]) [0, 1] (by decide) rfl
                                            refine W.widen (k := 0) (n := 0) (by omega) (by omega) ?_
                                            exact W.vret hx hb hr (fun t ht hW => ⟨⟨vp_updL (vp_updL (vp_updL (vp_updL (vp_updL (vp_updL (vp_updL (vp_updL (vp_updL (vp_updL f 0 0) 1 0) 2 0) 3 0) 4 0) 5 1) 6 0) 7 0) 8 0) 9 0, rfl, rfl, ⟨by rw [ht]; exact hP9, hD9⟩⟩, hS.F ht⟩) hS.2.2 dX4_begin_35
                                          · skip
                                            exact absurd c21 (by decide)
                                        · skip
                                          exact absurd c20 (by decide)
                                    · skip
                                      exact absurd c18 (by decide)
                                · skip
                                  exact absurd c16 (by decide)
                            · skip
                              exact absurd c14 (by decide)
                    · skip
                      exact absurd c10 (by decide)
                · skip
                  exact absurd c8 (by decide)
            · skip
              exact absurd c6 (by decide)
        · skip
          exact absurd c4 (by decide)
    · skip
      exact absurd c2 (by decide)

set_option maxHeartbeats 4000000 in
set_option maxRecDepth 100000 in
theorem c_X4_waking (l : Launch) (dC : Nat → ClassId) (dI : Nat → Nat → Nat) (G : Nat → ClassId) (sz : Nat) (h0 sa aa wy a1 a2 a3 a4 a5 a6 : Nat) (w0 : Int64) (f : Nat → Int64) (q : Int32)  : Met l yX4_waking (Cond.code yX4_waking cX4_waking 5 (some .long) :: GT) ({ frames := 1, cells := 0, slots := 0, locals := 22 } : Room) (PcW [.ref h0, .ref wy, .int 0, .int q] dC dI G [(h0, .inr (4, [.long w0, .ref sa, .ref aa])), (sa, .inl (G 1, 10, .inr (.inl f))), (wy, .inr (9, [.int 0, .int 0, .int 5, .ref a1, .ref a2, .ref a3, .ref a4, .ref a5, .ref a6]))] sz) (va_Ql (fun (r : Int64) (u : Unit) => match u with | _ => (r = 0) ∧ True) (fun (u : Unit) (t : State) => match u with | _ => va_P (dC, dI) vwCl [(h0, .inr (4, [.long 1, .ref sa, .ref aa])), (wy, .inr (9, [.int 0, .int 0, .int 5, .ref a1, .ref a2, .ref a3, .ref a4, .ref a5, .ref a6]))] t.heap ∧ va_D (va_A [(h0, .inr (4, [.long w0, .ref sa, .ref aa])), (sa, .inl (G 1, 10, .inr (.inl f))), (wy, .inr (9, [.int 0, .int 0, .int 5, .ref a1, .ref a2, .ref a3, .ref a4, .ref a5, .ref a6]))] sz) [(h0, .inr (4, [.long 1, .ref sa, .ref aa])), (wy, .inr (9, [.int 0, .int 0, .int 5, .ref a1, .ref a2, .ref a3, .ref a4, .ref a5, .ref a6]))]) (va_A [(h0, .inr (4, [.long w0, .ref sa, .ref aa])), (sa, .inl (G 1, 10, .inr (.inl f))), (wy, .inr (9, [.int 0, .int 0, .int 5, .ref a1, .ref a2, .ref a3, .ref a4, .ref a5, .ref a6]))] sz)) 0 0 (va_A [(h0, .inr (4, [.long w0, .ref sa, .ref aa])), (sa, .inl (G 1, 10, .inr (.inl f))), (wy, .inr (9, [.int 0, .int 0, .int 5, .ref a1, .ref a2, .ref a3, .ref a4, .ref a5, .ref a6]))] sz) := by
  refine Met.ofW (cc := cX4_waking) (maxL := 5) (ret := (some .long)) (by decide) rfl ?_
  intro p e s m args below meth c s₁ B hml hv
  obtain ⟨rfl, hsz, hP, hK, hD0⟩ := hv
  have hx := B.exec
  have hb := B.bytes
  have hr := B.returns
  have hg : ∀ w ∈ GT, w.before ([.ref h0, .ref wy, .int 0, .int q] : List Value).toArray s = true := fun w h => atoms_spec (ws := Cond.code yX4_waking cX4_waking 5 (some .long) :: GT) B.pre w (List.mem_cons_of_mem _ h)
  have hown : s.vm.findClass RX4 = some m.cls := findClass_of_methodNamed B.named
  have hlocks := B.notSynchronized
  subst hsz
  have hD := hD0.self (sz := s.heap.size)
  generalize hAe : va_A [(h0, .inr (4, [.long w0, .ref sa, .ref aa])), (sa, .inl (G 1, 10, .inr (.inl f))), (wy, .inr (9, [.int 0, .int 0, .int 5, .ref a1, .ref a2, .ref a3, .ref a4, .ref a5, .ref a6]))] s.heap.size = A at hD ⊢
  have hA : ∀ q : Nat, s.heap.size ≤ q → A q := fun q h => by rw [← hAe]; exact Or.inr h
  have hS : va_S A s.heap s.heap [] := va_S.rf
  have hl := lv_entry ([.ref h0, .ref wy, .int 0, .int q]) (n := 5) (Nat.le_of_ble_eq_true rfl)
  rw [lg_entry_eq]
  generalize (lg_sl ([.ref h0, .ref wy, .int 0, .int q]) ++ List.replicate (5 - (lg_sl ([.ref h0, .ref wy, .int 0, .int q])).length) Slot.unset).toArray = ls at hl ⊢
  have hl : lv_has ls 5 [(0, .ref h0), (1, .ref wy), (2, .int 0), (3, .int q)] := hl
  refine lv_aload_n hx hb dX4_waking_0 rfl (lv_at hl 0 rfl) ?_
  refine lv_aload_n hx hb dX4_waking_1 rfl (lv_at hl 1 rfl) ?_
  refine va_getN (D := (dC, dI)) (ci := 9) (v := .int 5) (C := RX9) (T := TX9) (N := 9) hx hb hg inG9 hown hK.1 hP 2 rfl rfl 2 (by decide) (hK.nest wn_67) (fun _ h9 => h9) rfl dX4_waking_2 ?_
  have hPc := hP.sub (ws' := [(h0, .inr (4, [.long w0, .ref sa, .ref aa])), (sa, .inl (G 1, 10, .inr (.inl f)))]) [0, 1] rfl
  have hDc := hD.sub (ws' := [(h0, .inr (4, [.long w0, .ref sa, .ref aa])), (sa, .inl (G 1, 10, .inr (.inl f)))]) [0, 1] (by decide) rfl
  have hFc := va_free (wc := [(h0, .inr (4, [.long w0, .ref sa, .ref aa])), (sa, .inl (G 1, 10, .inr (.inl f)))]) hD hS hA [0, 1] rfl
  refine va_callv (va_runV (As := [.int 5]) (rest := []) ⟨hx, hb, hml, hown, hg⟩ (c_X4_begin l dC dI G _ h0 sa aa w0 f ) (kwV hg mfX4_begin wt_612 ⟨Nat.le_of_ble_eq_true rfl, Nat.le_of_ble_eq_true rfl⟩) (preVW hK hPc hDc (ci := 4) rfl rfl) rfl rfl hl.1 rfl (lv_room (Nat.le_of_ble_eq_true rfl)) dX4_waking_5 ⟨Nat.le_of_ble_eq_true rfl, Nat.le_of_ble_eq_true rfl⟩) hS (fun q _ h => hFc q h) hFc (fun ur1 t H1 locs ht hvm w2 hB hz1 hk1 hS => ?_)
  obtain ⟨u3, rfl⟩ : ∃ z, z = ur1 := ⟨_, rfl⟩
  obtain ⟨hP1, hD1⟩ := hB
  rw [ht] at hP1
  obtain ⟨hP, hD⟩ := va_join (wr := [(wy, .inr (9, [.int 0, .int 0, .int 5, .ref a1, .ref a2, .ref a3, .ref a4, .ref a5, .ref a6]))]) (w1 := [(h0, .inr (4, [.long 1, .ref sa, .ref aa])), (sa, .inl (G 1, 10, .inr (.inl u3)))]) hP hD [0, 1] [2] rfl rfl (by decide) (by decide) hk1 hFc hP1 hD1
  generalize H1 = H at hP hS ⊢
  have hP : va_P (dC, dI) vwCl [(wy, .inr (9, [.int 0, .int 0, .int 5, .ref a1, .ref a2, .ref a3, .ref a4, .ref a5, .ref a6])), (h0, .inr (4, [.long 1, .ref sa, .ref aa])), (sa, .inl (G 1, 10, .inr (.inl u3)))] H := hP
  have hD : va_D A [(wy, .inr (9, [.int 0, .int 0, .int 5, .ref a1, .ref a2, .ref a3, .ref a4, .ref a5, .ref a6])), (h0, .inr (4, [.long 1, .ref sa, .ref aa])), (sa, .inl (G 1, 10, .inr (.inl u3)))] := hD
  refine lv_iconst (v := 0) hx hb dX4_waking_8 (by decide) ?_
  refine lv_istore (lv' := [(4, .int 0), (0, .ref h0), (1, .ref wy), (2, .int 0), (3, .int q)]) hx hb dX4_waking_9 hl (by decide) rfl (fun ls hl => ?_)
  refine lv_iload hx hb dX4_waking_11 (lv_at hl 0 rfl) ?_
  refine lv_iload_n hx hb dX4_waking_13 rfl (lv_at hl 3 rfl) ?_
  refine lv_icmp_ge (tgt := 43) hx hb dX4_waking_14 (by decide) (fun c4 => ?_) (fun c4 => ?_)
  · skip
    refine lv_aload_n hx hb dX4_waking_43 rfl (lv_at hl 1 rfl) ?_
    refine va_get (D := (dC, dI)) (ci := 4) (v := .ref sa) (C := RX4) (T := TX4) (N := 3) hx hb hg inG4 hown hK.1 hP 1 rfl rfl 1 (by decide) (hg _ wt_158) (fun _ h9 => h9) rfl dX4_waking_44 ?_
    refine lv_iconst (v := 0) hx hb dX4_waking_47 (by decide) ?_
    refine va_lald hx hb hK.1 hP 2 1 rfl rfl (vp_in_iff.mpr ⟨by decide, by decide⟩) dX4_waking_48 ?_
    refine lv_cgl (y := 0) (w2) ?_
    have hpost : (0 : Int64) = 0 := by
      have t_c4 := leI c4
      have : (0 : Int32).toInt = 0 := (by decide)
      first | rfl | ((repeat' split) <;> first | rfl | omega)
    have hP9 := hP.sub (ws' := [(h0, .inr (4, [.long 1, .ref sa, .ref aa])), (wy, .inr (9, [.int 0, .int 0, .int 5, .ref a1, .ref a2, .ref a3, .ref a4, .ref a5, .ref a6]))]) [1, 0] rfl
    have hD9 := hD.sub (ws' := [(h0, .inr (4, [.long 1, .ref sa, .ref aa])), (wy, .inr (9, [.int 0, .int 0, .int 5, .ref a1, .ref a2, .ref a3, .ref a4, .ref a5, .ref a6]))]) [1, 0] (by decide) rfl
    refine W.widen (k := 0) (n := 0) (by omega) (by omega) ?_
    exact W.lret (v := 0) hx hb hr (fun t ht hW => ⟨⟨0, (), rfl, ⟨hpost, trivial⟩, ⟨by rw [ht]; exact hP9, hD9⟩⟩, hS.F ht⟩) hS.2.2 dX4_waking_49
  · skip
    exact absurd c4 (by decide)
