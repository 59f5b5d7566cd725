set_option maxHeartbeats 1000000 in
set_option maxRecDepth 100000 in
theorem c_X8_dropUnmarked1 (l : Launch) (dC : Nat → ClassId) (dI : Nat → Nat → Nat) (G : Nat → ClassId) (sz : Nat) (mk m1 m2 S k : Nat) (i : Int32) (z1 z2 : Nat → Int32) (ri ro : Nat → Nat) (F E : Nat → Nat → Int32) (hS0 : S ≤ 6) (hk : k < 11) : Met l yX8_dropUnmarked (Cond.code yX8_dropUnmarked cX8_dropUnmarked 4 none :: GT) ({ frames := 1, cells := 0, slots := 0, locals := 23 } : Room) (PcW [.ref (ri k), .ref mk, .int i] dC dI G (([(mk, .inr (3, [.int (nI S), .ref m1, .ref m2])), (m1, .inl (G 0, 6, .inl z1)), (m2, .inl (G 0, 6, .inl z2))] : va_W) ++ ((((List.range 11).map (fun iq => (ri iq, .inl (G 0, 10, .inl (F iq))))) : va_W) ++ ((((List.range 11).map (fun iq => (ro iq, .inl (G 0, 10, .inl (E iq))))) : va_W) ++ []))) sz) (va_Qv (fun (u : (Nat → Nat → Int32) × (Nat → Nat → Int32)) => match u with | (u1, u2) => True) (fun (u : (Nat → Nat → Int32) × (Nat → Nat → Int32)) (t : State) => match u with | (u1, u2) => va_P (dC, dI) vwCl (([(mk, .inr (3, [.int (nI S), .ref m1, .ref m2])), (m1, .inl (G 0, 6, .inl z1)), (m2, .inl (G 0, 6, .inl z2))] : va_W) ++ ((((List.range 11).map (fun iq => (ri iq, .inl (G 0, 10, .inl (u1 iq))))) : va_W) ++ ((((List.range 11).map (fun iq => (ro iq, .inl (G 0, 10, .inl (u2 iq))))) : va_W) ++ []))) t.heap ∧ va_D (va_A (([(mk, .inr (3, [.int (nI S), .ref m1, .ref m2])), (m1, .inl (G 0, 6, .inl z1)), (m2, .inl (G 0, 6, .inl z2))] : va_W) ++ ((((List.range 11).map (fun iq => (ri iq, .inl (G 0, 10, .inl (F iq))))) : va_W) ++ ((((List.range 11).map (fun iq => (ro iq, .inl (G 0, 10, .inl (E iq))))) : va_W) ++ []))) sz) (([(mk, .inr (3, [.int (nI S), .ref m1, .ref m2])), (m1, .inl (G 0, 6, .inl z1)), (m2, .inl (G 0, 6, .inl z2))] : va_W) ++ ((((List.range 11).map (fun iq => (ri iq, .inl (G 0, 10, .inl (u1 iq))))) : va_W) ++ ((((List.range 11).map (fun iq => (ro iq, .inl (G 0, 10, .inl (u2 iq))))) : va_W) ++ [])))) (va_A (([(mk, .inr (3, [.int (nI S), .ref m1, .ref m2])), (m1, .inl (G 0, 6, .inl z1)), (m2, .inl (G 0, 6, .inl z2))] : va_W) ++ ((((List.range 11).map (fun iq => (ri iq, .inl (G 0, 10, .inl (F iq))))) : va_W) ++ ((((List.range 11).map (fun iq => (ro iq, .inl (G 0, 10, .inl (E iq))))) : va_W) ++ []))) sz)) 0 0 (va_A (([(mk, .inr (3, [.int (nI S), .ref m1, .ref m2])), (m1, .inl (G 0, 6, .inl z1)), (m2, .inl (G 0, 6, .inl z2))] : va_W) ++ ((((List.range 11).map (fun iq => (ri iq, .inl (G 0, 10, .inl (F iq))))) : va_W) ++ ((((List.range 11).map (fun iq => (ro iq, .inl (G 0, 10, .inl (E iq))))) : va_W) ++ []))) sz) := by
  refine Met.ofW (cc := cX8_dropUnmarked) (maxL := 4) (ret := none) (by decide) rfl ?_
  intro p e s m args below meth c s₁ Bd hml hv
  obtain ⟨rfl, hsz, hP, hK, hD0⟩ := hv
  have hx := Bd.exec
  have hb := Bd.bytes
  have hr := Bd.returns
  have hg : ∀ w ∈ GT, w.before ([.ref (ri k), .ref mk, .int i] : List Value).toArray s = true := fun w h => atoms_spec (ws := Cond.code yX8_dropUnmarked cX8_dropUnmarked 4 none :: GT) Bd.pre w (List.mem_cons_of_mem _ h)
  have hown : s.vm.findClass RX8 = some m.cls := findClass_of_methodNamed Bd.named
  have hlocks := Bd.notSynchronized
  subst hsz
  have hD := hD0.self (sz := s.heap.size)
  generalize hAe : va_A (([(mk, .inr (3, [.int (nI S), .ref m1, .ref m2])), (m1, .inl (G 0, 6, .inl z1)), (m2, .inl (G 0, 6, .inl z2))] : va_W) ++ ((((List.range 11).map (fun iq => (ri iq, .inl (G 0, 10, .inl (F iq))))) : va_W) ++ ((((List.range 11).map (fun iq => (ro iq, .inl (G 0, 10, .inl (E iq))))) : va_W) ++ []))) s.heap.size = A at hD ⊢
  have hA : ∀ q : Nat, s.heap.size ≤ q → A q := fun q h => by rw [← hAe]; exact Or.inr h
  have hS : va_S A s.heap s.heap [] := va_S.rf
  have hl := lv_entry ([.ref (ri k), .ref mk, .int i]) (n := 4) (Nat.le_of_ble_eq_true rfl)
  rw [lg_entry_eq]
  generalize (lg_sl ([.ref (ri k), .ref mk, .int i]) ++ List.replicate (4 - (lg_sl ([.ref (ri k), .ref mk, .int i])).length) Slot.unset).toArray = ls at hl ⊢
  have hl : lv_has ls 4 [(0, .ref (ri k)), (1, .ref mk), (2, .int i)] := hl
  refine lv_iconst (v := 0) hx hb dX8_dropUnmarked_0 (by decide) ?_
  refine lv_istore_n (lv' := [(3, .int 0), (0, .ref (ri k)), (1, .ref mk), (2, .int i)]) hx hb dX8_dropUnmarked_1 rfl hl (by decide) rfl (fun ls hl => ?_)
  have loop2_3 : ∀ (nf j1 : Nat), 10 + 1 ≤ j1 + nf → j1 ≤ 10 → ∀ (g2 : Nat → Nat → Int32) (H : Heap) (locs : List Loc), va_P (dC, dI) vwCl (([(mk, .inr (3, [.int (nI S), .ref m1, .ref m2])), (m1, .inl (G 0, 6, .inl z1)), (m2, .inl (G 0, 6, .inl z2))] : va_W) ++ ((((List.range 11).map (fun iq => (ri iq, .inl (G 0, 10, .inl (g2 iq))))) : va_W) ++ ((((List.range 11).map (fun iq => (ro iq, .inl (G 0, 10, .inl (E iq))))) : va_W) ++ []))) H → va_D A (([(mk, .inr (3, [.int (nI S), .ref m1, .ref m2])), (m1, .inl (G 0, 6, .inl z1)), (m2, .inl (G 0, 6, .inl z2))] : va_W) ++ ((((List.range 11).map (fun iq => (ri iq, .inl (G 0, 10, .inl (g2 iq))))) : va_W) ++ ((((List.range 11).map (fun iq => (ro iq, .inl (G 0, 10, .inl (E iq))))) : va_W) ++ []))) → va_S A s.heap H locs → ∀ (ls : Array Slot), lv_has ls 4 [(3, .int (nI j1)), (0, .ref (ri k)), (1, .ref mk), (2, .int i)] → W p l e (headSpec (Cond.code yX8_dropUnmarked cX8_dropUnmarked 4 none :: GT) ({ frames := 1, cells := 0, slots := 0, locals := 23 } : Room)).room s m ([.ref (ri k), .ref mk, .int i] : List Value).toArray below meth c H locs 0 0 (MQ below (va_Qv (fun (u : (Nat → Nat → Int32) × (Nat → Nat → Int32)) => match u with | (u1, u2) => True) (fun (u : (Nat → Nat → Int32) × (Nat → Nat → Int32)) (t : State) => match u with | (u1, u2) => va_P (dC, dI) vwCl (([(mk, .inr (3, [.int (nI S), .ref m1, .ref m2])), (m1, .inl (G 0, 6, .inl z1)), (m2, .inl (G 0, 6, .inl z2))] : va_W) ++ ((((List.range 11).map (fun iq => (ri iq, .inl (G 0, 10, .inl (u1 iq))))) : va_W) ++ ((((List.range 11).map (fun iq => (ro iq, .inl (G 0, 10, .inl (u2 iq))))) : va_W) ++ []))) t.heap ∧ va_D A (([(mk, .inr (3, [.int (nI S), .ref m1, .ref m2])), (m1, .inl (G 0, 6, .inl z1)), (m2, .inl (G 0, 6, .inl z2))] : va_W) ++ ((((List.range 11).map (fun iq => (ri iq, .inl (G 0, 10, .inl (u1 iq))))) : va_W) ++ ((((List.range 11).map (fun iq => (ro iq, .inl (G 0, 10, .inl (u2 iq))))) : va_W) ++ [])))) A) ([.ref (ri k), .ref mk, .int i] : List Value).toArray s 0 0 A) (F0 m 2 ls []) := by
    intro nf
    induction nf with
    | zero => intro j1 h1 h2; exact absurd h1 (by omega)
    | succ nf ih2_3 =>
      intro j1 hn4 hj5 g2 H locs hP hD hS ls hl
      refine lv_iload_n hx hb dX8_dropUnmarked_2 rfl (lv_at hl 0 rfl) ?_
      refine lv_aload_n hx hb dX8_dropUnmarked_3 rfl (lv_at hl 1 rfl) ?_
      refine va_alen (v := 10) hx hb hK.1 (blk_P (j := k) hP (by have t_hj5 := hj5; have t_n0 : (nI S).toInt = (S : Int) := nI_toInt (by omega); have t_n1 : (nI j1).toInt = (j1 : Int) := nI_toInt (by omega); omega)) 0 0 rfl rfl (by rfl) dX8_dropUnmarked_4 ?_
      refine lv_icmp_ge (tgt := 27) hx hb dX8_dropUnmarked_5 (by decide) (fun c6 => ?_) (fun c6 => ?_)
      · skip
        have n7 : 10 ≤ j1 := by have t := leI c6; rw [nI_toInt (n := j1) (by omega)] at t; have : (10 : Int32).toInt = 10 := (by decide); omega
        have hP9 := hP.sub (ws' := (([(mk, .inr (3, [.int (nI S), .ref m1, .ref m2])), (m1, .inl (G 0, 6, .inl z1)), (m2, .inl (G 0, 6, .inl z2))] : va_W) ++ ((((List.range 11).map (fun iq => (ri iq, .inl (G 0, 10, .inl (g2 iq))))) : va_W) ++ ((((List.range 11).map (fun iq => (ro iq, .inl (G 0, 10, .inl (E iq))))) : va_W) ++ [])))) [0, 1, 2, 3, 4, 5, 6, 7, 8, 9, 10, 11, 12, 13, 14, 15, 16, 17, 18, 19, 20, 21, 22, 23, 24] rfl
        have hD9 := hD.sub (ws' := (([(mk, .inr (3, [.int (nI S), .ref m1, .ref m2])), (m1, .inl (G 0, 6, .inl z1)), (m2, .inl (G 0, 6, .inl z2))] : va_W) ++ ((((List.range 11).map (fun iq => (ri iq, .inl (G 0, 10, .inl (g2 iq))))) : va_W) ++ ((((List.range 11).map (fun iq => (ro iq, .inl (G 0, 10, .inl (E iq))))) : va_W) ++ [])))) [0, 1, 2, 3, 4, 5, 6, 7, 8, 9, 10, 11, 12, 13, 14, 15, 16, 17, 18, 19, 20, 21, 22, 23, 24] (by decide) rfl
        refine W.widen (k := 0) (n := 0) (by omega) (by omega) ?_
        exact W.vret hx hb hr (fun t ht hW => ⟨⟨(g2, E), rfl, trivial, ⟨by rw [ht]; exact hP9, hD9⟩⟩, hS.F ht⟩) hS.2.2 dX8_dropUnmarked_27
      · skip
        have n8 : j1 < 10 := by have t := nleI c6; rw [nI_toInt (n := j1) (by omega)] at t; have : (10 : Int32).toInt = 10 := (by decide); omega
        refine lv_aload_n hx hb dX8_dropUnmarked_8 rfl (lv_at hl 2 rfl) ?_
        refine lv_iload_n hx hb dX8_dropUnmarked_9 rfl (lv_at hl 3 rfl) ?_
        refine lv_iload_n hx hb dX8_dropUnmarked_10 rfl (lv_at hl 0 rfl) ?_
        have hPc := hP.sub (ws' := [(mk, .inr (3, [.int (nI S), .ref m1, .ref m2])), (m1, .inl (G 0, 6, .inl z1)), (m2, .inl (G 0, 6, .inl z2))]) [0, 1, 2] rfl
        refine va_calli (va_runVN (As := [.int i, .int (nI j1)]) (rest := []) ⟨hx, hb, hml, hown, hg⟩ (c_X3_allows l dC dI G _ mk m1 m2 S i (nI j1) z1 z2 (by have t_hj5 := hj5; have t_n8 := n8; have t_n0 : (nI S).toInt = (S : Int) := nI_toInt (by omega); have t_n1 : (nI j1).toInt = (j1 : Int) := nI_toInt (by omega); omega)) (kwVN hg hK mfX3_allows wn_780 ⟨Nat.le_of_ble_eq_true rfl, Nat.le_of_ble_eq_true rfl⟩) (preVR hK hPc (ci := 3) rfl rfl) rfl rfl hl.1 rfl (lv_room (Nat.le_of_ble_eq_true rfl)) dX8_dropUnmarked_11 ⟨Nat.le_of_ble_eq_true rfl, Nat.le_of_ble_eq_true rfl⟩) hS (fun q h1 h2 => absurd h2 (Nat.not_le.mpr h1)) (fun q h => hA q (Nat.le_trans hS.1 h)) (fun r9 ur9 t H1 locs ht hvm w10 hB hz1 hk1 hS => ?_)
        have hP := keepR hP hk1
        obtain ⟨w10, w10x⟩ := w10
        have cut21_12 : ∀ (g11 : Nat → Nat → Int32) (H : Heap) (locs : List Loc), va_P (dC, dI) vwCl (([(mk, .inr (3, [.int (nI S), .ref m1, .ref m2])), (m1, .inl (G 0, 6, .inl z1)), (m2, .inl (G 0, 6, .inl z2))] : va_W) ++ ((((List.range 11).map (fun iq => (ri iq, .inl (G 0, 10, .inl (g11 iq))))) : va_W) ++ ((((List.range 11).map (fun iq => (ro iq, .inl (G 0, 10, .inl (E iq))))) : va_W) ++ []))) H → va_D A (([(mk, .inr (3, [.int (nI S), .ref m1, .ref m2])), (m1, .inl (G 0, 6, .inl z1)), (m2, .inl (G 0, 6, .inl z2))] : va_W) ++ ((((List.range 11).map (fun iq => (ri iq, .inl (G 0, 10, .inl (g11 iq))))) : va_W) ++ ((((List.range 11).map (fun iq => (ro iq, .inl (G 0, 10, .inl (E iq))))) : va_W) ++ []))) → va_S A s.heap H locs → ∀ (ls : Array Slot), lv_has ls 4 [(3, .int (nI j1)), (0, .ref (ri k)), (1, .ref mk), (2, .int i)] → W p l e (headSpec (Cond.code yX8_dropUnmarked cX8_dropUnmarked 4 none :: GT) ({ frames := 1, cells := 0, slots := 0, locals := 23 } : Room)).room s m ([.ref (ri k), .ref mk, .int i] : List Value).toArray below meth c H locs 0 0 (MQ below (va_Qv (fun (u : (Nat → Nat → Int32) × (Nat → Nat → Int32)) => match u with | (u1, u2) => True) (fun (u : (Nat → Nat → Int32) × (Nat → Nat → Int32)) (t : State) => match u with | (u1, u2) => va_P (dC, dI) vwCl (([(mk, .inr (3, [.int (nI S), .ref m1, .ref m2])), (m1, .inl (G 0, 6, .inl z1)), (m2, .inl (G 0, 6, .inl z2))] : va_W) ++ ((((List.range 11).map (fun iq => (ri iq, .inl (G 0, 10, .inl (u1 iq))))) : va_W) ++ ((((List.range 11).map (fun iq => (ro iq, .inl (G 0, 10, .inl (u2 iq))))) : va_W) ++ []))) t.heap ∧ va_D A (([(mk, .inr (3, [.int (nI S), .ref m1, .ref m2])), (m1, .inl (G 0, 6, .inl z1)), (m2, .inl (G 0, 6, .inl z2))] : va_W) ++ ((((List.range 11).map (fun iq => (ri iq, .inl (G 0, 10, .inl (u1 iq))))) : va_W) ++ ((((List.range 11).map (fun iq => (ro iq, .inl (G 0, 10, .inl (u2 iq))))) : va_W) ++ [])))) A) ([.ref (ri k), .ref mk, .int i] : List Value).toArray s 0 0 A) (F0 m 21 ls []) := by
          intro g11 H locs hP hD hS ls hl
          refine lv_iinc (v := nI (j1 + 1)) (lv' := [(3, .int (nI (j1 + 1))), (0, .ref (ri k)), (1, .ref mk), (2, .int i)]) hx hb dX8_dropUnmarked_21 hl (k := 0) rfl (by rw [show Int32.ofInt 1 = nI 1 from by decide]; exact nI_add _ _) (by decide) rfl (fun ls hl => ?_)
          refine lv_goto (tgt := 2) hx hb dX8_dropUnmarked_24 (by decide) ?_
          exact ih2_3 (j1 + 1) (by omega) (by omega) g11 _ _ hP hD hS ls (lv_sub hl [0, 1, 2, 3] rfl)
        refine lv_if_ne (tgt := 21) hx hb dX8_dropUnmarked_14 (by decide) (fun c13 => ?_) (fun c13 => ?_)
        · skip
          exact cut21_12 g2 _ _ hP hD hS ls (lv_sub hl [0, 1, 2, 3] rfl)
        · skip
          refine lv_aload_n hx hb dX8_dropUnmarked_17 rfl (lv_at hl 1 rfl) ?_
          refine lv_iload_n hx hb dX8_dropUnmarked_18 rfl (lv_at hl 0 rfl) ?_
          refine lv_iconst (v := 0) hx hb dX8_dropUnmarked_19 (by decide) ?_
          refine va_iastB (j := k) hx hb hK.1 hP hD hS 0 (by have t_hj5 := hj5; have t_n8 := n8; have t_c13 := eqI c13; have : (0 : Int32).toInt = 0 := (by decide); have t_n0 : (nI S).toInt = (S : Int) := nI_toInt (by omega); have t_n1 : (nI j1).toInt = (j1 : Int) := nI_toInt (by omega); omega) rfl (vp_in_nI (by have t_hj5 := hj5; have t_n8 := n8; have t_c13 := eqI c13; have : (0 : Int32).toInt = 0 := (by decide); have t_n0 : (nI S).toInt = (S : Int) := nI_toInt (by omega); have t_n1 : (nI j1).toInt = (j1 : Int) := nI_toInt (by omega); omega) (by decide)) dX8_dropUnmarked_20 (fun H locs hP hD hS => ?_)
          rw [nI_clamp (by have t_hj5 := hj5; have t_n8 := n8; have t_c13 := eqI c13; have : (0 : Int32).toInt = 0 := (by decide); have t_n0 : (nI S).toInt = (S : Int) := nI_toInt (by omega); have t_n1 : (nI j1).toInt = (j1 : Int) := nI_toInt (by omega); omega)] at hP hD
          have hP : va_P (dC, dI) vwCl (([(mk, .inr (3, [.int (nI S), .ref m1, .ref m2])), (m1, .inl (G 0, 6, .inl z1)), (m2, .inl (G 0, 6, .inl z2))] : va_W) ++ ((((List.range 11).map (fun iq => (ri iq, .inl (G 0, 10, .inl ((va_up g2 k (upd (g2 k) j1 0)) iq))))) : va_W) ++ ((((List.range 11).map (fun iq => (ro iq, .inl (G 0, 10, .inl (E iq))))) : va_W) ++ []))) H := hP
          have hD : va_D A (([(mk, .inr (3, [.int (nI S), .ref m1, .ref m2])), (m1, .inl (G 0, 6, .inl z1)), (m2, .inl (G 0, 6, .inl z2))] : va_W) ++ ((((List.range 11).map (fun iq => (ri iq, .inl (G 0, 10, .inl ((va_up g2 k (upd (g2 k) j1 0)) iq))))) : va_W) ++ ((((List.range 11).map (fun iq => (ro iq, .inl (G 0, 10, .inl (E iq))))) : va_W) ++ []))) := hD
          exact cut21_12 (va_up g2 k (upd (g2 k) j1 0)) _ _ hP hD hS ls (lv_sub hl [0, 1, 2, 3] rfl)
  exact loop2_3 (10 + 1) 0 (by omega) (by omega) F _ _ hP hD hS ls (lv_sub hl [0, 1, 2, 3] rfl)

set_option maxHeartbeats 1000000 in
set_option maxRecDepth 100000 in
theorem c_X8_dropUnmarked2 (l : Launch) (dC : Nat → ClassId) (dI : Nat → Nat → Nat) (G : Nat → ClassId) (sz : Nat) (mk m1 m2 S k : Nat) (i : Int32) (z1 z2 : Nat → Int32) (ri ro : Nat → Nat) (F E : Nat → Nat → Int32) (hS0 : S ≤ 6) (hk : k < 11) : Met l yX8_dropUnmarked (Cond.code yX8_dropUnmarked cX8_dropUnmarked 4 none :: GT) ({ frames := 1, cells := 0, slots := 0, locals := 23 } : Room) (PcW [.ref (ro k), .ref mk, .int i] dC dI G (([(mk, .inr (3, [.int (nI S), .ref m1, .ref m2])), (m1, .inl (G 0, 6, .inl z1)), (m2, .inl (G 0, 6, .inl z2))] : va_W) ++ ((((List.range 11).map (fun iq => (ri iq, .inl (G 0, 10, .inl (F iq))))) : va_W) ++ ((((List.range 11).map (fun iq => (ro iq, .inl (G 0, 10, .inl (E iq))))) : va_W) ++ []))) sz) (va_Qv (fun (u : (Nat → Nat → Int32) × (Nat → Nat → Int32)) => match u with | (u1, u2) => True) (fun (u : (Nat → Nat → Int32) × (Nat → Nat → Int32)) (t : State) => match u with | (u1, u2) => va_P (dC, dI) vwCl (([(mk, .inr (3, [.int (nI S), .ref m1, .ref m2])), (m1, .inl (G 0, 6, .inl z1)), (m2, .inl (G 0, 6, .inl z2))] : va_W) ++ ((((List.range 11).map (fun iq => (ri iq, .inl (G 0, 10, .inl (u1 iq))))) : va_W) ++ ((((List.range 11).map (fun iq => (ro iq, .inl (G 0, 10, .inl (u2 iq))))) : va_W) ++ []))) t.heap ∧ va_D (va_A (([(mk, .inr (3, [.int (nI S), .ref m1, .ref m2])), (m1, .inl (G 0, 6, .inl z1)), (m2, .inl (G 0, 6, .inl z2))] : va_W) ++ ((((List.range 11).map (fun iq => (ri iq, .inl (G 0, 10, .inl (F iq))))) : va_W) ++ ((((List.range 11).map (fun iq => (ro iq, .inl (G 0, 10, .inl (E iq))))) : va_W) ++ []))) sz) (([(mk, .inr (3, [.int (nI S), .ref m1, .ref m2])), (m1, .inl (G 0, 6, .inl z1)), (m2, .inl (G 0, 6, .inl z2))] : va_W) ++ ((((List.range 11).map (fun iq => (ri iq, .inl (G 0, 10, .inl (u1 iq))))) : va_W) ++ ((((List.range 11).map (fun iq => (ro iq, .inl (G 0, 10, .inl (u2 iq))))) : va_W) ++ [])))) (va_A (([(mk, .inr (3, [.int (nI S), .ref m1, .ref m2])), (m1, .inl (G 0, 6, .inl z1)), (m2, .inl (G 0, 6, .inl z2))] : va_W) ++ ((((List.range 11).map (fun iq => (ri iq, .inl (G 0, 10, .inl (F iq))))) : va_W) ++ ((((List.range 11).map (fun iq => (ro iq, .inl (G 0, 10, .inl (E iq))))) : va_W) ++ []))) sz)) 0 0 (va_A (([(mk, .inr (3, [.int (nI S), .ref m1, .ref m2])), (m1, .inl (G 0, 6, .inl z1)), (m2, .inl (G 0, 6, .inl z2))] : va_W) ++ ((((List.range 11).map (fun iq => (ri iq, .inl (G 0, 10, .inl (F iq))))) : va_W) ++ ((((List.range 11).map (fun iq => (ro iq, .inl (G 0, 10, .inl (E iq))))) : va_W) ++ []))) sz) := by
  refine Met.ofW (cc := cX8_dropUnmarked) (maxL := 4) (ret := none) (by decide) rfl ?_
  intro p e s m args below meth c s₁ Bd hml hv
  obtain ⟨rfl, hsz, hP, hK, hD0⟩ := hv
  have hx := Bd.exec
  have hb := Bd.bytes
  have hr := Bd.returns
  have hg : ∀ w ∈ GT, w.before ([.ref (ro k), .ref mk, .int i] : List Value).toArray s = true := fun w h => atoms_spec (ws := Cond.code yX8_dropUnmarked cX8_dropUnmarked 4 none :: GT) Bd.pre w (List.mem_cons_of_mem _ h)
  have hown : s.vm.findClass RX8 = some m.cls := findClass_of_methodNamed Bd.named
  have hlocks := Bd.notSynchronized
  subst hsz
  have hD := hD0.self (sz := s.heap.size)
  generalize hAe : va_A (([(mk, .inr (3, [.int (nI S), .ref m1, .ref m2])), (m1, .inl (G 0, 6, .inl z1)), (m2, .inl (G 0, 6, .inl z2))] : va_W) ++ ((((List.range 11).map (fun iq => (ri iq, .inl (G 0, 10, .inl (F iq))))) : va_W) ++ ((((List.range 11).map (fun iq => (ro iq, .inl (G 0, 10, .inl (E iq))))) : va_W) ++ []))) s.heap.size = A at hD ⊢
  have hA : ∀ q : Nat, s.heap.size ≤ q → A q := fun q h => by rw [← hAe]; exact Or.inr h
  have hS : va_S A s.heap s.heap [] := va_S.rf
  have hl := lv_entry ([.ref (ro k), .ref mk, .int i]) (n := 4) (Nat.le_of_ble_eq_true rfl)
  rw [lg_entry_eq]
  generalize (lg_sl ([.ref (ro k), .ref mk, .int i]) ++ List.replicate (4 - (lg_sl ([.ref (ro k), .ref mk, .int i])).length) Slot.unset).toArray = ls at hl ⊢
  have hl : lv_has ls 4 [(0, .ref (ro k)), (1, .ref mk), (2, .int i)] := hl
  refine lv_iconst (v := 0) hx hb dX8_dropUnmarked_0 (by decide) ?_
  refine lv_istore_n (lv' := [(3, .int 0), (0, .ref (ro k)), (1, .ref mk), (2, .int i)]) hx hb dX8_dropUnmarked_1 rfl hl (by decide) rfl (fun ls hl => ?_)
  have loop2_3 : ∀ (nf j1 : Nat), 10 + 1 ≤ j1 + nf → j1 ≤ 10 → ∀ (g2 : Nat → Nat → Int32) (H : Heap) (locs : List Loc), va_P (dC, dI) vwCl (([(mk, .inr (3, [.int (nI S), .ref m1, .ref m2])), (m1, .inl (G 0, 6, .inl z1)), (m2, .inl (G 0, 6, .inl z2))] : va_W) ++ ((((List.range 11).map (fun iq => (ri iq, .inl (G 0, 10, .inl (F iq))))) : va_W) ++ ((((List.range 11).map (fun iq => (ro iq, .inl (G 0, 10, .inl (g2 iq))))) : va_W) ++ []))) H → va_D A (([(mk, .inr (3, [.int (nI S), .ref m1, .ref m2])), (m1, .inl (G 0, 6, .inl z1)), (m2, .inl (G 0, 6, .inl z2))] : va_W) ++ ((((List.range 11).map (fun iq => (ri iq, .inl (G 0, 10, .inl (F iq))))) : va_W) ++ ((((List.range 11).map (fun iq => (ro iq, .inl (G 0, 10, .inl (g2 iq))))) : va_W) ++ []))) → va_S A s.heap H locs → ∀ (ls : Array Slot), lv_has ls 4 [(3, .int (nI j1)), (0, .ref (ro k)), (1, .ref mk), (2, .int i)] → W p l e (headSpec (Cond.code yX8_dropUnmarked cX8_dropUnmarked 4 none :: GT) ({ frames := 1, cells := 0, slots := 0, locals := 23 } : Room)).room s m ([.ref (ro k), .ref mk, .int i] : List Value).toArray below meth c H locs 0 0 (MQ below (va_Qv (fun (u : (Nat → Nat → Int32) × (Nat → Nat → Int32)) => match u with | (u1, u2) => True) (fun (u : (Nat → Nat → Int32) × (Nat → Nat → Int32)) (t : State) => match u with | (u1, u2) => va_P (dC, dI) vwCl (([(mk, .inr (3, [.int (nI S), .ref m1, .ref m2])), (m1, .inl (G 0, 6, .inl z1)), (m2, .inl (G 0, 6, .inl z2))] : va_W) ++ ((((List.range 11).map (fun iq => (ri iq, .inl (G 0, 10, .inl (u1 iq))))) : va_W) ++ ((((List.range 11).map (fun iq => (ro iq, .inl (G 0, 10, .inl (u2 iq))))) : va_W) ++ []))) t.heap ∧ va_D A (([(mk, .inr (3, [.int (nI S), .ref m1, .ref m2])), (m1, .inl (G 0, 6, .inl z1)), (m2, .inl (G 0, 6, .inl z2))] : va_W) ++ ((((List.range 11).map (fun iq => (ri iq, .inl (G 0, 10, .inl (u1 iq))))) : va_W) ++ ((((List.range 11).map (fun iq => (ro iq, .inl (G 0, 10, .inl (u2 iq))))) : va_W) ++ [])))) A) ([.ref (ro k), .ref mk, .int i] : List Value).toArray s 0 0 A) (F0 m 2 ls []) := by
    intro nf
    induction nf with
    | zero => intro j1 h1 h2; exact absurd h1 (by omega)
    | succ nf ih2_3 =>
      intro j1 hn4 hj5 g2 H locs hP hD hS ls hl
      refine lv_iload_n hx hb dX8_dropUnmarked_2 rfl (lv_at hl 0 rfl) ?_
      refine lv_aload_n hx hb dX8_dropUnmarked_3 rfl (lv_at hl 1 rfl) ?_
      refine va_alen (v := 10) hx hb hK.1 (blk_P2 (j := k) hP (by have t_hj5 := hj5; have t_n0 : (nI S).toInt = (S : Int) := nI_toInt (by omega); have t_n1 : (nI j1).toInt = (j1 : Int) := nI_toInt (by omega); omega)) 0 0 rfl rfl (by rfl) dX8_dropUnmarked_4 ?_
      refine lv_icmp_ge (tgt := 27) hx hb dX8_dropUnmarked_5 (by decide) (fun c6 => ?_) (fun c6 => ?_)
      · skip
        have n7 : 10 ≤ j1 := by have t := leI c6; rw [nI_toInt (n := j1) (by omega)] at t; have : (10 : Int32).toInt = 10 := (by decide); omega
        have hP9 := hP.sub (ws' := (([(mk, .inr (3, [.int (nI S), .ref m1, .ref m2])), (m1, .inl (G 0, 6, .inl z1)), (m2, .inl (G 0, 6, .inl z2))] : va_W) ++ ((((List.range 11).map (fun iq => (ri iq, .inl (G 0, 10, .inl (F iq))))) : va_W) ++ ((((List.range 11).map (fun iq => (ro iq, .inl (G 0, 10, .inl (g2 iq))))) : va_W) ++ [])))) [0, 1, 2, 3, 4, 5, 6, 7, 8, 9, 10, 11, 12, 13, 14, 15, 16, 17, 18, 19, 20, 21, 22, 23, 24] rfl
        have hD9 := hD.sub (ws' := (([(mk, .inr (3, [.int (nI S), .ref m1, .ref m2])), (m1, .inl (G 0, 6, .inl z1)), (m2, .inl (G 0, 6, .inl z2))] : va_W) ++ ((((List.range 11).map (fun iq => (ri iq, .inl (G 0, 10, .inl (F iq))))) : va_W) ++ ((((List.range 11).map (fun iq => (ro iq, .inl (G 0, 10, .inl (g2 iq))))) : va_W) ++ [])))) [0, 1, 2, 3, 4, 5, 6, 7, 8, 9, 10, 11, 12, 13, 14, 15, 16, 17, 18, 19, 20, 21, 22, 23, 24] (by decide) rfl
        refine W.widen (k := 0) (n := 0) (by omega) (by omega) ?_
        exact W.vret hx hb hr (fun t ht hW => ⟨⟨(F, g2), rfl, trivial, ⟨by rw [ht]; exact hP9, hD9⟩⟩, hS.F ht⟩) hS.2.2 dX8_dropUnmarked_27
      · skip
        have n8 : j1 < 10 := by have t := nleI c6; rw [nI_toInt (n := j1) (by omega)] at t; have : (10 : Int32).toInt = 10 := (by decide); omega
        refine lv_aload_n hx hb dX8_dropUnmarked_8 rfl (lv_at hl 2 rfl) ?_
        refine lv_iload_n hx hb dX8_dropUnmarked_9 rfl (lv_at hl 3 rfl) ?_
        refine lv_iload_n hx hb dX8_dropUnmarked_10 rfl (lv_at hl 0 rfl) ?_
        have hPc := hP.sub (ws' := [(mk, .inr (3, [.int (nI S), .ref m1, .ref m2])), (m1, .inl (G 0, 6, .inl z1)), (m2, .inl (G 0, 6, .inl z2))]) [0, 1, 2] rfl
        refine va_calli (va_runVN (As := [.int i, .int (nI j1)]) (rest := []) ⟨hx, hb, hml, hown, hg⟩ (c_X3_allows l dC dI G _ mk m1 m2 S i (nI j1) z1 z2 (by have t_hj5 := hj5; have t_n8 := n8; have t_n0 : (nI S).toInt = (S : Int) := nI_toInt (by omega); have t_n1 : (nI j1).toInt = (j1 : Int) := nI_toInt (by omega); omega)) (kwVN hg hK mfX3_allows wn_780 ⟨Nat.le_of_ble_eq_true rfl, Nat.le_of_ble_eq_true rfl⟩) (preVR hK hPc (ci := 3) rfl rfl) rfl rfl hl.1 rfl (lv_room (Nat.le_of_ble_eq_true rfl)) dX8_dropUnmarked_11 ⟨Nat.le_of_ble_eq_true rfl, Nat.le_of_ble_eq_true rfl⟩) hS (fun q h1 h2 => absurd h2 (Nat.not_le.mpr h1)) (fun q h => hA q (Nat.le_trans hS.1 h)) (fun r9 ur9 t H1 locs ht hvm w10 hB hz1 hk1 hS => ?_)
        have hP := keepR hP hk1
        obtain ⟨w10, w10x⟩ := w10
        have cut21_12 : ∀ (g11 : Nat → Nat → Int32) (H : Heap) (locs : List Loc), va_P (dC, dI) vwCl (([(mk, .inr (3, [.int (nI S), .ref m1, .ref m2])), (m1, .inl (G 0, 6, .inl z1)), (m2, .inl (G 0, 6, .inl z2))] : va_W) ++ ((((List.range 11).map (fun iq => (ri iq, .inl (G 0, 10, .inl (F iq))))) : va_W) ++ ((((List.range 11).map (fun iq => (ro iq, .inl (G 0, 10, .inl (g11 iq))))) : va_W) ++ []))) H → va_D A (([(mk, .inr (3, [.int (nI S), .ref m1, .ref m2])), (m1, .inl (G 0, 6, .inl z1)), (m2, .inl (G 0, 6, .inl z2))] : va_W) ++ ((((List.range 11).map (fun iq => (ri iq, .inl (G 0, 10, .inl (F iq))))) : va_W) ++ ((((List.range 11).map (fun iq => (ro iq, .inl (G 0, 10, .inl (g11 iq))))) : va_W) ++ []))) → va_S A s.heap H locs → ∀ (ls : Array Slot), lv_has ls 4 [(3, .int (nI j1)), (0, .ref (ro k)), (1, .ref mk), (2, .int i)] → W p l e (headSpec (Cond.code yX8_dropUnmarked cX8_dropUnmarked 4 none :: GT) ({ frames := 1, cells := 0, slots := 0, locals := 23 } : Room)).room s m ([.ref (ro k), .ref mk, .int i] : List Value).toArray below meth c H locs 0 0 (MQ below (va_Qv (fun (u : (Nat → Nat → Int32) × (Nat → Nat → Int32)) => match u with | (u1, u2) => True) (fun (u : (Nat → Nat → Int32) × (Nat → Nat → Int32)) (t : State) => match u with | (u1, u2) => va_P (dC, dI) vwCl (([(mk, .inr (3, [.int (nI S), .ref m1, .ref m2])), (m1, .inl (G 0, 6, .inl z1)), (m2, .inl (G 0, 6, .inl z2))] : va_W) ++ ((((List.range 11).map (fun iq => (ri iq, .inl (G 0, 10, .inl (u1 iq))))) : va_W) ++ ((((List.range 11).map (fun iq => (ro iq, .inl (G 0, 10, .inl (u2 iq))))) : va_W) ++ []))) t.heap ∧ va_D A (([(mk, .inr (3, [.int (nI S), .ref m1, .ref m2])), (m1, .inl (G 0, 6, .inl z1)), (m2, .inl (G 0, 6, .inl z2))] : va_W) ++ ((((List.range 11).map (fun iq => (ri iq, .inl (G 0, 10, .inl (u1 iq))))) : va_W) ++ ((((List.range 11).map (fun iq => (ro iq, .inl (G 0, 10, .inl (u2 iq))))) : va_W) ++ [])))) A) ([.ref (ro k), .ref mk, .int i] : List Value).toArray s 0 0 A) (F0 m 21 ls []) := by
          intro g11 H locs hP hD hS ls hl
          refine lv_iinc (v := nI (j1 + 1)) (lv' := [(3, .int (nI (j1 + 1))), (0, .ref (ro k)), (1, .ref mk), (2, .int i)]) hx hb dX8_dropUnmarked_21 hl (k := 0) rfl (by rw [show Int32.ofInt 1 = nI 1 from by decide]; exact nI_add _ _) (by decide) rfl (fun ls hl => ?_)
          refine lv_goto (tgt := 2) hx hb dX8_dropUnmarked_24 (by decide) ?_
          exact ih2_3 (j1 + 1) (by omega) (by omega) g11 _ _ hP hD hS ls (lv_sub hl [0, 1, 2, 3] rfl)
        refine lv_if_ne (tgt := 21) hx hb dX8_dropUnmarked_14 (by decide) (fun c13 => ?_) (fun c13 => ?_)
        · skip
          exact cut21_12 g2 _ _ hP hD hS ls (lv_sub hl [0, 1, 2, 3] rfl)
        · skip
          refine lv_aload_n hx hb dX8_dropUnmarked_17 rfl (lv_at hl 1 rfl) ?_
          refine lv_iload_n hx hb dX8_dropUnmarked_18 rfl (lv_at hl 0 rfl) ?_
          refine lv_iconst (v := 0) hx hb dX8_dropUnmarked_19 (by decide) ?_
          refine va_iastB2 (j := k) hx hb hK.1 hP hD hS 0 (by have t_hj5 := hj5; have t_n8 := n8; have t_c13 := eqI c13; have : (0 : Int32).toInt = 0 := (by decide); have t_n0 : (nI S).toInt = (S : Int) := nI_toInt (by omega); have t_n1 : (nI j1).toInt = (j1 : Int) := nI_toInt (by omega); omega) rfl (vp_in_nI (by have t_hj5 := hj5; have t_n8 := n8; have t_c13 := eqI c13; have : (0 : Int32).toInt = 0 := (by decide); have t_n0 : (nI S).toInt = (S : Int) := nI_toInt (by omega); have t_n1 : (nI j1).toInt = (j1 : Int) := nI_toInt (by omega); omega) (by decide)) dX8_dropUnmarked_20 (fun H locs hP hD hS => ?_)
          rw [nI_clamp (by have t_hj5 := hj5; have t_n8 := n8; have t_c13 := eqI c13; have : (0 : Int32).toInt = 0 := (by decide); have t_n0 : (nI S).toInt = (S : Int) := nI_toInt (by omega); have t_n1 : (nI j1).toInt = (j1 : Int) := nI_toInt (by omega); omega)] at hP hD
          have hP : va_P (dC, dI) vwCl (([(mk, .inr (3, [.int (nI S), .ref m1, .ref m2])), (m1, .inl (G 0, 6, .inl z1)), (m2, .inl (G 0, 6, .inl z2))] : va_W) ++ ((((List.range 11).map (fun iq => (ri iq, .inl (G 0, 10, .inl (F iq))))) : va_W) ++ ((((List.range 11).map (fun iq => (ro iq, .inl (G 0, 10, .inl ((va_up g2 k (upd (g2 k) j1 0)) iq))))) : va_W) ++ []))) H := hP
          have hD : va_D A (([(mk, .inr (3, [.int (nI S), .ref m1, .ref m2])), (m1, .inl (G 0, 6, .inl z1)), (m2, .inl (G 0, 6, .inl z2))] : va_W) ++ ((((List.range 11).map (fun iq => (ri iq, .inl (G 0, 10, .inl (F iq))))) : va_W) ++ ((((List.range 11).map (fun iq => (ro iq, .inl (G 0, 10, .inl ((va_up g2 k (upd (g2 k) j1 0)) iq))))) : va_W) ++ []))) := hD
          exact cut21_12 (va_up g2 k (upd (g2 k) j1 0)) _ _ hP hD hS ls (lv_sub hl [0, 1, 2, 3] rfl)
  exact loop2_3 (10 + 1) 0 (by omega) (by omega) E _ _ hP hD hS ls (lv_sub hl [0, 1, 2, 3] rfl)

set_option maxHeartbeats 1000000 in
set_option maxRecDepth 100000 in
theorem c_X8_explore (l : Launch) (dC : Nat → ClassId) (dI : Nat → Nat → Nat) (G : Nat → ClassId) (sz : Nat) (h0 ti to wy a1 a2 a3 a4 a5 a6 N B D mk m1 m2 S : Nat) (tt : Int32) (f1 f2 f3 f4 f5 f6 z1 z2 : Nat → Int32) (ri ro : Nat → Nat) (F E : Nat → Nat → Int32) (hN_N : N ≤ 10) (hB_B : B ≤ 6) (hD_D : 1 ≤ D ∧ D ≤ 9) (hS0 : S ≤ 6) : Met l yX8_explore (Cond.code yX8_explore cX8_explore 4 none :: GT) ({ frames := 4, cells := 0, slots := 0, locals := 88 } : Room) (PcW [.ref h0, .ref wy, .ref mk] dC dI G (([(h0, .inr (8, [.int tt, .ref ti, .ref to])), (ti, .inl (G 4, 11, .inr (.inr (.inr (.inr (fun ir => if ir < 11 then some (ri ir) else none)))))), (to, .inl (G 4, 11, .inr (.inr (.inr (.inr (fun ir => if ir < 11 then some (ro ir) else none)))))), (wy, .inr (9, [.int (nI N), .int (nI B), .int (nI D), .ref a1, .ref a2, .ref a3, .ref a4, .ref a5, .ref a6])), (a1, .inl (G 0, 10, .inl f1)), (a2, .inl (G 0, 10, .inl f2)), (a3, .inl (G 0, 10, .inl f3)), (a4, .inl (G 0, 6, .inl f4)), (a5, .inl (G 0, 6, .inl f5)), (a6, .inl (G 0, 6, .inl f6)), (mk, .inr (3, [.int (nI S), .ref m1, .ref m2])), (m1, .inl (G 0, 6, .inl z1)), (m2, .inl (G 0, 6, .inl z2))] : va_W) ++ ((((List.range 11).map (fun iq => (ri iq, .inl (G 0, 10, .inl (F iq))))) : va_W) ++ ((((List.range 11).map (fun iq => (ro iq, .inl (G 0, 10, .inl (E iq))))) : va_W) ++ []))) sz) (va_Qv (fun (u : Int32 × (Nat → Nat → Int32) × (Nat → Nat → Int32)) => match u with | (u0, u1, u2) => True) (fun (u : Int32 × (Nat → Nat → Int32) × (Nat → Nat → Int32)) (t : State) => match u with | (u0, u1, u2) => va_P (dC, dI) vwCl (([(h0, .inr (8, [.int u0, .ref ti, .ref to])), (ti, .inl (G 4, 11, .inr (.inr (.inr (.inr (fun ir => if ir < 11 then some (ri ir) else none)))))), (to, .inl (G 4, 11, .inr (.inr (.inr (.inr (fun ir => if ir < 11 then some (ro ir) else none)))))), (wy, .inr (9, [.int (nI N), .int (nI B), .int (nI D), .ref a1, .ref a2, .ref a3, .ref a4, .ref a5, .ref a6])), (a1, .inl (G 0, 10, .inl f1)), (a2, .inl (G 0, 10, .inl f2)), (a3, .inl (G 0, 10, .inl f3)), (a4, .inl (G 0, 6, .inl f4)), (a5, .inl (G 0, 6, .inl f5)), (a6, .inl (G 0, 6, .inl f6)), (mk, .inr (3, [.int (nI S), .ref m1, .ref m2])), (m1, .inl (G 0, 6, .inl z1)), (m2, .inl (G 0, 6, .inl z2))] : va_W) ++ ((((List.range 11).map (fun iq => (ri iq, .inl (G 0, 10, .inl (u1 iq))))) : va_W) ++ ((((List.range 11).map (fun iq => (ro iq, .inl (G 0, 10, .inl (u2 iq))))) : va_W) ++ []))) t.heap ∧ va_D (va_A (([(h0, .inr (8, [.int tt, .ref ti, .ref to])), (ti, .inl (G 4, 11, .inr (.inr (.inr (.inr (fun ir => if ir < 11 then some (ri ir) else none)))))), (to, .inl (G 4, 11, .inr (.inr (.inr (.inr (fun ir => if ir < 11 then some (ro ir) else none)))))), (wy, .inr (9, [.int (nI N), .int (nI B), .int (nI D), .ref a1, .ref a2, .ref a3, .ref a4, .ref a5, .ref a6])), (a1, .inl (G 0, 10, .inl f1)), (a2, .inl (G 0, 10, .inl f2)), (a3, .inl (G 0, 10, .inl f3)), (a4, .inl (G 0, 6, .inl f4)), (a5, .inl (G 0, 6, .inl f5)), (a6, .inl (G 0, 6, .inl f6)), (mk, .inr (3, [.int (nI S), .ref m1, .ref m2])), (m1, .inl (G 0, 6, .inl z1)), (m2, .inl (G 0, 6, .inl z2))] : va_W) ++ ((((List.range 11).map (fun iq => (ri iq, .inl (G 0, 10, .inl (F iq))))) : va_W) ++ ((((List.range 11).map (fun iq => (ro iq, .inl (G 0, 10, .inl (E iq))))) : va_W) ++ []))) sz) (([(h0, .inr (8, [.int u0, .ref ti, .ref to])), (ti, .inl (G 4, 11, .inr (.inr (.inr (.inr (fun ir => if ir < 11 then some (ri ir) else none)))))), (to, .inl (G 4, 11, .inr (.inr (.inr (.inr (fun ir => if ir < 11 then some (ro ir) else none)))))), (wy, .inr (9, [.int (nI N), .int (nI B), .int (nI D), .ref a1, .ref a2, .ref a3, .ref a4, .ref a5, .ref a6])), (a1, .inl (G 0, 10, .inl f1)), (a2, .inl (G 0, 10, .inl f2)), (a3, .inl (G 0, 10, .inl f3)), (a4, .inl (G 0, 6, .inl f4)), (a5, .inl (G 0, 6, .inl f5)), (a6, .inl (G 0, 6, .inl f6)), (mk, .inr (3, [.int (nI S), .ref m1, .ref m2])), (m1, .inl (G 0, 6, .inl z1)), (m2, .inl (G 0, 6, .inl z2))] : va_W) ++ ((((List.range 11).map (fun iq => (ri iq, .inl (G 0, 10, .inl (u1 iq))))) : va_W) ++ ((((List.range 11).map (fun iq => (ro iq, .inl (G 0, 10, .inl (u2 iq))))) : va_W) ++ [])))) (va_A (([(h0, .inr (8, [.int tt, .ref ti, .ref to])), (ti, .inl (G 4, 11, .inr (.inr (.inr (.inr (fun ir => if ir < 11 then some (ri ir) else none)))))), (to, .inl (G 4, 11, .inr (.inr (.inr (.inr (fun ir => if ir < 11 then some (ro ir) else none)))))), (wy, .inr (9, [.int (nI N), .int (nI B), .int (nI D), .ref a1, .ref a2, .ref a3, .ref a4, .ref a5, .ref a6])), (a1, .inl (G 0, 10, .inl f1)), (a2, .inl (G 0, 10, .inl f2)), (a3, .inl (G 0, 10, .inl f3)), (a4, .inl (G 0, 6, .inl f4)), (a5, .inl (G 0, 6, .inl f5)), (a6, .inl (G 0, 6, .inl f6)), (mk, .inr (3, [.int (nI S), .ref m1, .ref m2])), (m1, .inl (G 0, 6, .inl z1)), (m2, .inl (G 0, 6, .inl z2))] : va_W) ++ ((((List.range 11).map (fun iq => (ri iq, .inl (G 0, 10, .inl (F iq))))) : va_W) ++ ((((List.range 11).map (fun iq => (ro iq, .inl (G 0, 10, .inl (E iq))))) : va_W) ++ []))) sz)) 0 0 (va_A (([(h0, .inr (8, [.int tt, .ref ti, .ref to])), (ti, .inl (G 4, 11, .inr (.inr (.inr (.inr (fun ir => if ir < 11 then some (ri ir) else none)))))), (to, .inl (G 4, 11, .inr (.inr (.inr (.inr (fun ir => if ir < 11 then some (ro ir) else none)))))), (wy, .inr (9, [.int (nI N), .int (nI B), .int (nI D), .ref a1, .ref a2, .ref a3, .ref a4, .ref a5, .ref a6])), (a1, .inl (G 0, 10, .inl f1)), (a2, .inl (G 0, 10, .inl f2)), (a3, .inl (G 0, 10, .inl f3)), (a4, .inl (G 0, 6, .inl f4)), (a5, .inl (G 0, 6, .inl f5)), (a6, .inl (G 0, 6, .inl f6)), (mk, .inr (3, [.int (nI S), .ref m1, .ref m2])), (m1, .inl (G 0, 6, .inl z1)), (m2, .inl (G 0, 6, .inl z2))] : va_W) ++ ((((List.range 11).map (fun iq => (ri iq, .inl (G 0, 10, .inl (F iq))))) : va_W) ++ ((((List.range 11).map (fun iq => (ro iq, .inl (G 0, 10, .inl (E iq))))) : va_W) ++ []))) sz) := by
  refine Met.ofW (cc := cX8_explore) (maxL := 4) (ret := none) (by decide) rfl ?_
  intro p e s m args below meth c s₁ Bd hml hv
  obtain ⟨rfl, hsz, hP, hK, hD0⟩ := hv
  have hx := Bd.exec
  have hb := Bd.bytes
  have hr := Bd.returns
  have hg : ∀ w ∈ GT, w.before ([.ref h0, .ref wy, .ref mk] : List Value).toArray s = true := fun w h => atoms_spec (ws := Cond.code yX8_explore cX8_explore 4 none :: GT) Bd.pre w (List.mem_cons_of_mem _ h)
  have hown : s.vm.findClass RX8 = some m.cls := findClass_of_methodNamed Bd.named
  have hlocks := Bd.notSynchronized
  subst hsz
  have hD := hD0.self (sz := s.heap.size)
  generalize hAe : va_A (([(h0, .inr (8, [.int tt, .ref ti, .ref to])), (ti, .inl (G 4, 11, .inr (.inr (.inr (.inr (fun ir => if ir < 11 then some (ri ir) else none)))))), (to, .inl (G 4, 11, .inr (.inr (.inr (.inr (fun ir => if ir < 11 then some (ro ir) else none)))))), (wy, .inr (9, [.int (nI N), .int (nI B), .int (nI D), .ref a1, .ref a2, .ref a3, .ref a4, .ref a5, .ref a6])), (a1, .inl (G 0, 10, .inl f1)), (a2, .inl (G 0, 10, .inl f2)), (a3, .inl (G 0, 10, .inl f3)), (a4, .inl (G 0, 6, .inl f4)), (a5, .inl (G 0, 6, .inl f5)), (a6, .inl (G 0, 6, .inl f6)), (mk, .inr (3, [.int (nI S), .ref m1, .ref m2])), (m1, .inl (G 0, 6, .inl z1)), (m2, .inl (G 0, 6, .inl z2))] : va_W) ++ ((((List.range 11).map (fun iq => (ri iq, .inl (G 0, 10, .inl (F iq))))) : va_W) ++ ((((List.range 11).map (fun iq => (ro iq, .inl (G 0, 10, .inl (E iq))))) : va_W) ++ []))) s.heap.size = A at hD ⊢
  have hA : ∀ q : Nat, s.heap.size ≤ q → A q := fun q h => by rw [← hAe]; exact Or.inr h
  have hS : va_S A s.heap s.heap [] := va_S.rf
  have hl := lv_entry ([.ref h0, .ref wy, .ref mk]) (n := 4) (Nat.le_of_ble_eq_true rfl)
  rw [lg_entry_eq]
  generalize (lg_sl ([.ref h0, .ref wy, .ref mk]) ++ List.replicate (4 - (lg_sl ([.ref h0, .ref wy, .ref mk])).length) Slot.unset).toArray = ls at hl ⊢
  have hl : lv_has ls 4 [(0, .ref h0), (1, .ref wy), (2, .ref mk)] := hl
  refine lv_iconst (v := 0) hx hb dX8_explore_0 (by decide) ?_
  refine lv_istore_n (lv' := [(3, .int 0), (0, .ref h0), (1, .ref wy), (2, .ref mk)]) hx hb dX8_explore_1 rfl hl (by decide) rfl (fun ls hl => ?_)
  have loop2_4 : ∀ (nf j1 : Nat), 10 + 1 ≤ j1 + nf → j1 ≤ 10 → ∀ (g2 : Nat → Nat → Int32) (g3 : Nat → Nat → Int32) (H : Heap) (locs : List Loc), va_P (dC, dI) vwCl (([(h0, .inr (8, [.int tt, .ref ti, .ref to])), (ti, .inl (G 4, 11, .inr (.inr (.inr (.inr (fun ir => if ir < 11 then some (ri ir) else none)))))), (to, .inl (G 4, 11, .inr (.inr (.inr (.inr (fun ir => if ir < 11 then some (ro ir) else none)))))), (wy, .inr (9, [.int (nI N), .int (nI B), .int (nI D), .ref a1, .ref a2, .ref a3, .ref a4, .ref a5, .ref a6])), (a1, .inl (G 0, 10, .inl f1)), (a2, .inl (G 0, 10, .inl f2)), (a3, .inl (G 0, 10, .inl f3)), (a4, .inl (G 0, 6, .inl f4)), (a5, .inl (G 0, 6, .inl f5)), (a6, .inl (G 0, 6, .inl f6)), (mk, .inr (3, [.int (nI S), .ref m1, .ref m2])), (m1, .inl (G 0, 6, .inl z1)), (m2, .inl (G 0, 6, .inl z2))] : va_W) ++ ((((List.range 11).map (fun iq => (ri iq, .inl (G 0, 10, .inl (g2 iq))))) : va_W) ++ ((((List.range 11).map (fun iq => (ro iq, .inl (G 0, 10, .inl (g3 iq))))) : va_W) ++ []))) H → va_D A (([(h0, .inr (8, [.int tt, .ref ti, .ref to])), (ti, .inl (G 4, 11, .inr (.inr (.inr (.inr (fun ir => if ir < 11 then some (ri ir) else none)))))), (to, .inl (G 4, 11, .inr (.inr (.inr (.inr (fun ir => if ir < 11 then some (ro ir) else none)))))), (wy, .inr (9, [.int (nI N), .int (nI B), .int (nI D), .ref a1, .ref a2, .ref a3, .ref a4, .ref a5, .ref a6])), (a1, .inl (G 0, 10, .inl f1)), (a2, .inl (G 0, 10, .inl f2)), (a3, .inl (G 0, 10, .inl f3)), (a4, .inl (G 0, 6, .inl f4)), (a5, .inl (G 0, 6, .inl f5)), (a6, .inl (G 0, 6, .inl f6)), (mk, .inr (3, [.int (nI S), .ref m1, .ref m2])), (m1, .inl (G 0, 6, .inl z1)), (m2, .inl (G 0, 6, .inl z2))] : va_W) ++ ((((List.range 11).map (fun iq => (ri iq, .inl (G 0, 10, .inl (g2 iq))))) : va_W) ++ ((((List.range 11).map (fun iq => (ro iq, .inl (G 0, 10, .inl (g3 iq))))) : va_W) ++ []))) → va_S A s.heap H locs → ∀ (ls : Array Slot), lv_has ls 4 [(3, .int (nI j1)), (0, .ref h0), (1, .ref wy), (2, .ref mk)] → W p l e (headSpec (Cond.code yX8_explore cX8_explore 4 none :: GT) ({ frames := 4, cells := 0, slots := 0, locals := 88 } : Room)).room s m ([.ref h0, .ref wy, .ref mk] : List Value).toArray below meth c H locs 0 0 (MQ below (va_Qv (fun (u : Int32 × (Nat → Nat → Int32) × (Nat → Nat → Int32)) => match u with | (u0, u1, u2) => True) (fun (u : Int32 × (Nat → Nat → Int32) × (Nat → Nat → Int32)) (t : State) => match u with | (u0, u1, u2) => va_P (dC, dI) vwCl (([(h0, .inr (8, [.int u0, .ref ti, .ref to])), (ti, .inl (G 4, 11, .inr (.inr (.inr (.inr (fun ir => if ir < 11 then some (ri ir) else none)))))), (to, .inl (G 4, 11, .inr (.inr (.inr (.inr (fun ir => if ir < 11 then some (ro ir) else none)))))), (wy, .inr (9, [.int (nI N), .int (nI B), .int (nI D), .ref a1, .ref a2, .ref a3, .ref a4, .ref a5, .ref a6])), (a1, .inl (G 0, 10, .inl f1)), (a2, .inl (G 0, 10, .inl f2)), (a3, .inl (G 0, 10, .inl f3)), (a4, .inl (G 0, 6, .inl f4)), (a5, .inl (G 0, 6, .inl f5)), (a6, .inl (G 0, 6, .inl f6)), (mk, .inr (3, [.int (nI S), .ref m1, .ref m2])), (m1, .inl (G 0, 6, .inl z1)), (m2, .inl (G 0, 6, .inl z2))] : va_W) ++ ((((List.range 11).map (fun iq => (ri iq, .inl (G 0, 10, .inl (u1 iq))))) : va_W) ++ ((((List.range 11).map (fun iq => (ro iq, .inl (G 0, 10, .inl (u2 iq))))) : va_W) ++ []))) t.heap ∧ va_D A (([(h0, .inr (8, [.int u0, .ref ti, .ref to])), (ti, .inl (G 4, 11, .inr (.inr (.inr (.inr (fun ir => if ir < 11 then some (ri ir) else none)))))), (to, .inl (G 4, 11, .inr (.inr (.inr (.inr (fun ir => if ir < 11 then some (ro ir) else none)))))), (wy, .inr (9, [.int (nI N), .int (nI B), .int (nI D), .ref a1, .ref a2, .ref a3, .ref a4, .ref a5, .ref a6])), (a1, .inl (G 0, 10, .inl f1)), (a2, .inl (G 0, 10, .inl f2)), (a3, .inl (G 0, 10, .inl f3)), (a4, .inl (G 0, 6, .inl f4)), (a5, .inl (G 0, 6, .inl f5)), (a6, .inl (G 0, 6, .inl f6)), (mk, .inr (3, [.int (nI S), .ref m1, .ref m2])), (m1, .inl (G 0, 6, .inl z1)), (m2, .inl (G 0, 6, .inl z2))] : va_W) ++ ((((List.range 11).map (fun iq => (ri iq, .inl (G 0, 10, .inl (u1 iq))))) : va_W) ++ ((((List.range 11).map (fun iq => (ro iq, .inl (G 0, 10, .inl (u2 iq))))) : va_W) ++ [])))) A) ([.ref h0, .ref wy, .ref mk] : List Value).toArray s 0 0 A) (F0 m 2 ls []) := by
    intro nf
    induction nf with
    | zero => intro j1 h1 h2; exact absurd h1 (by omega)
    | succ nf ih2_4 =>
      intro j1 hn5 hj6 g2 g3 H locs hP hD hS ls hl
      refine lv_iload_n hx hb dX8_explore_2 rfl (lv_at hl 0 rfl) ?_
      refine lv_bipush (v := 10) hx hb dX8_explore_3 (by decide) ?_
      refine lv_icmp_ge (tgt := 47) hx hb dX8_explore_5 (by decide) (fun c7 => ?_) (fun c7 => ?_)
      · skip
        have n8 : 10 ≤ j1 := by have t := leI c7; rw [nI_toInt (n := j1) (by omega)] at t; have : (10 : Int32).toInt = 10 := (by decide); omega
        refine lv_iconst (v := 0) hx hb dX8_explore_47 (by decide) ?_
        refine lv_istore_n (lv' := [(3, .int 0), (0, .ref h0), (1, .ref wy), (2, .ref mk)]) hx hb dX8_explore_48 rfl hl (by decide) rfl (fun ls hl => ?_)
        have loop49_13 : ∀ (nf j9 : Nat), N + 1 ≤ j9 + nf → j9 ≤ N → ∀ (y10 : Int32) (g11 : Nat → Nat → Int32) (g12 : Nat → Nat → Int32) (H : Heap) (locs : List Loc), va_P (dC, dI) vwCl (([(h0, .inr (8, [.int y10, .ref ti, .ref to])), (ti, .inl (G 4, 11, .inr (.inr (.inr (.inr (fun ir => if ir < 11 then some (ri ir) else none)))))), (to, .inl (G 4, 11, .inr (.inr (.inr (.inr (fun ir => if ir < 11 then some (ro ir) else none)))))), (wy, .inr (9, [.int (nI N), .int (nI B), .int (nI D), .ref a1, .ref a2, .ref a3, .ref a4, .ref a5, .ref a6])), (a1, .inl (G 0, 10, .inl f1)), (a2, .inl (G 0, 10, .inl f2)), (a3, .inl (G 0, 10, .inl f3)), (a4, .inl (G 0, 6, .inl f4)), (a5, .inl (G 0, 6, .inl f5)), (a6, .inl (G 0, 6, .inl f6)), (mk, .inr (3, [.int (nI S), .ref m1, .ref m2])), (m1, .inl (G 0, 6, .inl z1)), (m2, .inl (G 0, 6, .inl z2))] : va_W) ++ ((((List.range 11).map (fun iq => (ri iq, .inl (G 0, 10, .inl (g11 iq))))) : va_W) ++ ((((List.range 11).map (fun iq => (ro iq, .inl (G 0, 10, .inl (g12 iq))))) : va_W) ++ []))) H → va_D A (([(h0, .inr (8, [.int y10, .ref ti, .ref to])), (ti, .inl (G 4, 11, .inr (.inr (.inr (.inr (fun ir => if ir < 11 then some (ri ir) else none)))))), (to, .inl (G 4, 11, .inr (.inr (.inr (.inr (fun ir => if ir < 11 then some (ro ir) else none)))))), (wy, .inr (9, [.int (nI N), .int (nI B), .int (nI D), .ref a1, .ref a2, .ref a3, .ref a4, .ref a5, .ref a6])), (a1, .inl (G 0, 10, .inl f1)), (a2, .inl (G 0, 10, .inl f2)), (a3, .inl (G 0, 10, .inl f3)), (a4, .inl (G 0, 6, .inl f4)), (a5, .inl (G 0, 6, .inl f5)), (a6, .inl (G 0, 6, .inl f6)), (mk, .inr (3, [.int (nI S), .ref m1, .ref m2])), (m1, .inl (G 0, 6, .inl z1)), (m2, .inl (G 0, 6, .inl z2))] : va_W) ++ ((((List.range 11).map (fun iq => (ri iq, .inl (G 0, 10, .inl (g11 iq))))) : va_W) ++ ((((List.range 11).map (fun iq => (ro iq, .inl (G 0, 10, .inl (g12 iq))))) : va_W) ++ []))) → va_S A s.heap H locs → ∀ (ls : Array Slot), lv_has ls 4 [(3, .int (nI j9)), (0, .ref h0), (1, .ref wy), (2, .ref mk)] → W p l e (headSpec (Cond.code yX8_explore cX8_explore 4 none :: GT) ({ frames := 4, cells := 0, slots := 0, locals := 88 } : Room)).room s m ([.ref h0, .ref wy, .ref mk] : List Value).toArray below meth c H locs 0 0 (MQ below (va_Qv (fun (u : Int32 × (Nat → Nat → Int32) × (Nat → Nat → Int32)) => match u with | (u0, u1, u2) => True) (fun (u : Int32 × (Nat → Nat → Int32) × (Nat → Nat → Int32)) (t : State) => match u with | (u0, u1, u2) => va_P (dC, dI) vwCl (([(h0, .inr (8, [.int u0, .ref ti, .ref to])), (ti, .inl (G 4, 11, .inr (.inr (.inr (.inr (fun ir => if ir < 11 then some (ri ir) else none)))))), (to, .inl (G 4, 11, .inr (.inr (.inr (.inr (fun ir => if ir < 11 then some (ro ir) else none)))))), (wy, .inr (9, [.int (nI N), .int (nI B), .int (nI D), .ref a1, .ref a2, .ref a3, .ref a4, .ref a5, .ref a6])), (a1, .inl (G 0, 10, .inl f1)), (a2, .inl (G 0, 10, .inl f2)), (a3, .inl (G 0, 10, .inl f3)), (a4, .inl (G 0, 6, .inl f4)), (a5, .inl (G 0, 6, .inl f5)), (a6, .inl (G 0, 6, .inl f6)), (mk, .inr (3, [.int (nI S), .ref m1, .ref m2])), (m1, .inl (G 0, 6, .inl z1)), (m2, .inl (G 0, 6, .inl z2))] : va_W) ++ ((((List.range 11).map (fun iq => (ri iq, .inl (G 0, 10, .inl (u1 iq))))) : va_W) ++ ((((List.range 11).map (fun iq => (ro iq, .inl (G 0, 10, .inl (u2 iq))))) : va_W) ++ []))) t.heap ∧ va_D A (([(h0, .inr (8, [.int u0, .ref ti, .ref to])), (ti, .inl (G 4, 11, .inr (.inr (.inr (.inr (fun ir => if ir < 11 then some (ri ir) else none)))))), (to, .inl (G 4, 11, .inr (.inr (.inr (.inr (fun ir => if ir < 11 then some (ro ir) else none)))))), (wy, .inr (9, [.int (nI N), .int (nI B), .int (nI D), .ref a1, .ref a2, .ref a3, .ref a4, .ref a5, .ref a6])), (a1, .inl (G 0, 10, .inl f1)), (a2, .inl (G 0, 10, .inl f2)), (a3, .inl (G 0, 10, .inl f3)), (a4, .inl (G 0, 6, .inl f4)), (a5, .inl (G 0, 6, .inl f5)), (a6, .inl (G 0, 6, .inl f6)), (mk, .inr (3, [.int (nI S), .ref m1, .ref m2])), (m1, .inl (G 0, 6, .inl z1)), (m2, .inl (G 0, 6, .inl z2))] : va_W) ++ ((((List.range 11).map (fun iq => (ri iq, .inl (G 0, 10, .inl (u1 iq))))) : va_W) ++ ((((List.range 11).map (fun iq => (ro iq, .inl (G 0, 10, .inl (u2 iq))))) : va_W) ++ [])))) A) ([.ref h0, .ref wy, .ref mk] : List Value).toArray s 0 0 A) (F0 m 49 ls []) := by
          intro nf
          induction nf with
          | zero => intro j9 h1 h2; exact absurd h1 (by omega)
          | succ nf ih49_13 =>
            intro j9 hn14 hj15 y10 g11 g12 H locs hP hD hS ls hl
            refine lv_iload_n hx hb dX8_explore_49 rfl (lv_at hl 0 rfl) ?_
            refine lv_aload_n hx hb dX8_explore_50 rfl (lv_at hl 2 rfl) ?_
            refine va_getN (D := (dC, dI)) (ci := 9) (v := .int (nI N)) (C := RX9) (T := TX9) (N := 9) hx hb hg inG9 hown hK.1 hP 3 rfl rfl 0 (by decide) (hK.nest wn_58) (fun _ h9 => h9) rfl dX8_explore_51 ?_
            refine lv_icmp_ge (tgt := 86) hx hb dX8_explore_54 (by decide) (fun c16 => ?_) (fun c16 => ?_)
            · skip
              have n17 : N ≤ j9 := by have t := leI c16; rw [nI_toInt (n := j9) (by omega)] at t; rw [nI_toInt (n := N) (by omega)] at t; omega
              refine lv_aload_n hx hb dX8_explore_86 rfl (lv_at hl 2 rfl) ?_
              refine va_getN (D := (dC, dI)) (ci := 9) (v := .int (nI N)) (C := RX9) (T := TX9) (N := 9) hx hb hg inG9 hown hK.1 hP 3 rfl rfl 0 (by decide) (hK.nest wn_58) (fun _ h9 => h9) rfl dX8_explore_87 ?_
              refine lv_iconst (v := 1) hx hb dX8_explore_90 (by decide) ?_
              refine lv_isub hx hb dX8_explore_91 ?_
              refine lv_istore_n (lv' := [(3, .int ((nI N) - 1)), (0, .ref h0), (1, .ref wy), (2, .ref mk)]) hx hb dX8_explore_92 rfl hl (by decide) rfl (fun ls hl => ?_)
              rw [dn_sub] at hl
              have loop93_22 : ∀ (j18 : Nat), j18 ≤ N → ∀ (y19 : Int32) (g20 : Nat → Nat → Int32) (g21 : Nat → Nat → Int32) (H : Heap) (locs : List Loc), va_P (dC, dI) vwCl (([(h0, .inr (8, [.int y19, .ref ti, .ref to])), (ti, .inl (G 4, 11, .inr (.inr (.inr (.inr (fun ir => if ir < 11 then some (ri ir) else none)))))), (to, .inl (G 4, 11, .inr (.inr (.inr (.inr (fun ir => if ir < 11 then some (ro ir) else none)))))), (wy, .inr (9, [.int (nI N), .int (nI B), .int (nI D), .ref a1, .ref a2, .ref a3, .ref a4, .ref a5, .ref a6])), (a1, .inl (G 0, 10, .inl f1)), (a2, .inl (G 0, 10, .inl f2)), (a3, .inl (G 0, 10, .inl f3)), (a4, .inl (G 0, 6, .inl f4)), (a5, .inl (G 0, 6, .inl f5)), (a6, .inl (G 0, 6, .inl f6)), (mk, .inr (3, [.int (nI S), .ref m1, .ref m2])), (m1, .inl (G 0, 6, .inl z1)), (m2, .inl (G 0, 6, .inl z2))] : va_W) ++ ((((List.range 11).map (fun iq => (ri iq, .inl (G 0, 10, .inl (g20 iq))))) : va_W) ++ ((((List.range 11).map (fun iq => (ro iq, .inl (G 0, 10, .inl (g21 iq))))) : va_W) ++ []))) H → va_D A (([(h0, .inr (8, [.int y19, .ref ti, .ref to])), (ti, .inl (G 4, 11, .inr (.inr (.inr (.inr (fun ir => if ir < 11 then some (ri ir) else none)))))), (to, .inl (G 4, 11, .inr (.inr (.inr (.inr (fun ir => if ir < 11 then some (ro ir) else none)))))), (wy, .inr (9, [.int (nI N), .int (nI B), .int (nI D), .ref a1, .ref a2, .ref a3, .ref a4, .ref a5, .ref a6])), (a1, .inl (G 0, 10, .inl f1)), (a2, .inl (G 0, 10, .inl f2)), (a3, .inl (G 0, 10, .inl f3)), (a4, .inl (G 0, 6, .inl f4)), (a5, .inl (G 0, 6, .inl f5)), (a6, .inl (G 0, 6, .inl f6)), (mk, .inr (3, [.int (nI S), .ref m1, .ref m2])), (m1, .inl (G 0, 6, .inl z1)), (m2, .inl (G 0, 6, .inl z2))] : va_W) ++ ((((List.range 11).map (fun iq => (ri iq, .inl (G 0, 10, .inl (g20 iq))))) : va_W) ++ ((((List.range 11).map (fun iq => (ro iq, .inl (G 0, 10, .inl (g21 iq))))) : va_W) ++ []))) → va_S A s.heap H locs → ∀ (ls : Array Slot), lv_has ls 4 [(3, .int (dn j18)), (0, .ref h0), (1, .ref wy), (2, .ref mk)] → W p l e (headSpec (Cond.code yX8_explore cX8_explore 4 none :: GT) ({ frames := 4, cells := 0, slots := 0, locals := 88 } : Room)).room s m ([.ref h0, .ref wy, .ref mk] : List Value).toArray below meth c H locs 0 0 (MQ below (va_Qv (fun (u : Int32 × (Nat → Nat → Int32) × (Nat → Nat → Int32)) => match u with | (u0, u1, u2) => True) (fun (u : Int32 × (Nat → Nat → Int32) × (Nat → Nat → Int32)) (t : State) => match u with | (u0, u1, u2) => va_P (dC, dI) vwCl (([(h0, .inr (8, [.int u0, .ref ti, .ref to])), (ti, .inl (G 4, 11, .inr (.inr (.inr (.inr (fun ir => if ir < 11 then some (ri ir) else none)))))), (to, .inl (G 4, 11, .inr (.inr (.inr (.inr (fun ir => if ir < 11 then some (ro ir) else none)))))), (wy, .inr (9, [.int (nI N), .int (nI B), .int (nI D), .ref a1, .ref a2, .ref a3, .ref a4, .ref a5, .ref a6])), (a1, .inl (G 0, 10, .inl f1)), (a2, .inl (G 0, 10, .inl f2)), (a3, .inl (G 0, 10, .inl f3)), (a4, .inl (G 0, 6, .inl f4)), (a5, .inl (G 0, 6, .inl f5)), (a6, .inl (G 0, 6, .inl f6)), (mk, .inr (3, [.int (nI S), .ref m1, .ref m2])), (m1, .inl (G 0, 6, .inl z1)), (m2, .inl (G 0, 6, .inl z2))] : va_W) ++ ((((List.range 11).map (fun iq => (ri iq, .inl (G 0, 10, .inl (u1 iq))))) : va_W) ++ ((((List.range 11).map (fun iq => (ro iq, .inl (G 0, 10, .inl (u2 iq))))) : va_W) ++ []))) t.heap ∧ va_D A (([(h0, .inr (8, [.int u0, .ref ti, .ref to])), (ti, .inl (G 4, 11, .inr (.inr (.inr (.inr (fun ir => if ir < 11 then some (ri ir) else none)))))), (to, .inl (G 4, 11, .inr (.inr (.inr (.inr (fun ir => if ir < 11 then some (ro ir) else none)))))), (wy, .inr (9, [.int (nI N), .int (nI B), .int (nI D), .ref a1, .ref a2, .ref a3, .ref a4, .ref a5, .ref a6])), (a1, .inl (G 0, 10, .inl f1)), (a2, .inl (G 0, 10, .inl f2)), (a3, .inl (G 0, 10, .inl f3)), (a4, .inl (G 0, 6, .inl f4)), (a5, .inl (G 0, 6, .inl f5)), (a6, .inl (G 0, 6, .inl f6)), (mk, .inr (3, [.int (nI S), .ref m1, .ref m2])), (m1, .inl (G 0, 6, .inl z1)), (m2, .inl (G 0, 6, .inl z2))] : va_W) ++ ((((List.range 11).map (fun iq => (ri iq, .inl (G 0, 10, .inl (u1 iq))))) : va_W) ++ ((((List.range 11).map (fun iq => (ro iq, .inl (G 0, 10, .inl (u2 iq))))) : va_W) ++ [])))) A) ([.ref h0, .ref wy, .ref mk] : List Value).toArray s 0 0 A) (F0 m 93 ls []) := by
                intro j18
                induction j18 with
                | zero =>
                  intro hj23 y19 g20 g21 H locs hP hD hS ls hl
                  have hl : lv_has ls 4 [(3, .int (-1)), (0, .ref h0), (1, .ref wy), (2, .ref mk)] := hl
                  refine lv_iload_n hx hb dX8_explore_93 rfl (lv_at hl 0 rfl) ?_
                  refine lv_if_lt (tgt := 126) hx hb dX8_explore_94 (by decide) (fun c24 => ?_) (fun c24 => ?_)
                  · skip
                    refine lv_aload_n hx hb dX8_explore_126 rfl (lv_at hl 1 rfl) ?_
                    refine lv_aload_n hx hb dX8_explore_127 rfl (lv_at hl 1 rfl) ?_
                    refine va_get (D := (dC, dI)) (ci := 8) (v := .ref to) (C := RX8) (T := TX8) (N := 3) hx hb hg inG8 hown hK.1 hP 0 rfl rfl 2 (by decide) (hg _ wt_261) (fun _ h9 => h9) rfl dX8_explore_128 ?_
                    refine lv_iconst (v := 0) hx hb dX8_explore_131 (by decide) ?_
                    refine va_aldA hx hb hK.1 hP 2 4 rfl rfl (vp_in_iff.mpr ⟨by decide, by decide⟩) dX8_explore_132 ?_
                    refine lv_cgv (y := .ref (ro 0)) (by rfl) ?_
                    refine lv_aload_n hx hb dX8_explore_133 rfl (lv_at hl 2 rfl) ?_
                    refine va_getN (D := (dC, dI)) (ci := 9) (v := .int (nI D)) (C := RX9) (T := TX9) (N := 9) hx hb hg inG9 hown hK.1 hP 3 rfl rfl 2 (by decide) (hK.nest wn_69) (fun _ h9 => h9) rfl dX8_explore_134 ?_
                    refine va_iald hx hb hK.1 (blk_P2 (j := 0) hP (by have t_hj6 := hj6; have t_n8 := n8; have t_hj15 := hj15; have t_n17 := n17; have t_c24 := ltI c24; have : ((-1) : Int32).toInt = -1 := (by decide); have : (0 : Int32).toInt = 0 := (by decide); have t_n0 : (nI N).toInt = (N : Int) := nI_toInt (by omega); have t_n1 : (nI B).toInt = (B : Int) := nI_toInt (by omega); have t_n2 : (nI D).toInt = (D : Int) := nI_toInt (by omega); have t_n3 : (nI S).toInt = (S : Int) := nI_toInt (by omega); have t_n4 : (nI j1).toInt = (j1 : Int) := nI_toInt (by omega); have t_n5 : (nI j9).toInt = (j9 : Int) := nI_toInt (by omega); omega)) 0 0 rfl rfl (vp_in_nI (by have t_hj6 := hj6; have t_n8 := n8; have t_hj15 := hj15; have t_n17 := n17; have t_c24 := ltI c24; have : ((-1) : Int32).toInt = -1 := (by decide); have : (0 : Int32).toInt = 0 := (by decide); have t_n0 : (nI N).toInt = (N : Int) := nI_toInt (by omega); have t_n1 : (nI B).toInt = (B : Int) := nI_toInt (by omega); have t_n2 : (nI D).toInt = (D : Int) := nI_toInt (by omega); have t_n3 : (nI S).toInt = (S : Int) := nI_toInt (by omega); have t_n4 : (nI j1).toInt = (j1 : Int) := nI_toInt (by omega); have t_n5 : (nI j9).toInt = (j9 : Int) := nI_toInt (by omega); omega) (by decide)) dX8_explore_137 ?_
                    refine lv_cg (y := g21 0 D) (by rw [nI_clamp (by have t_hj6 := hj6; have t_n8 := n8; have t_hj15 := hj15; have t_n17 := n17; have t_c24 := ltI c24; have : ((-1) : Int32).toInt = -1 := (by decide); have : (0 : Int32).toInt = 0 := (by decide); have t_n0 : (nI N).toInt = (N : Int) := nI_toInt (by omega); have t_n1 : (nI B).toInt = (B : Int) := nI_toInt (by omega); have t_n2 : (nI D).toInt = (D : Int) := nI_toInt (by omega); have t_n3 : (nI S).toInt = (S : Int) := nI_toInt (by omega); have t_n4 : (nI j1).toInt = (j1 : Int) := nI_toInt (by omega); have t_n5 : (nI j9).toInt = (j9 : Int) := nI_toInt (by omega); omega)]) ?_
                    refine va_put (D := (dC, dI)) (ci := 8) (v := .int (g21 0 D)) (ty := .int) (C := RX8) (T := TX8) (N := 3) hx hb hg inG8 tyX8 tyX8_ok nmX8 hown hK.1 hP hD hS 0 rfl rfl 0 (by decide) (hg _ wt_258) (fun _ h9 => h9) rfl (by decide +kernel) rfl rfl (Nat.le_of_ble_eq_true rfl) dX8_explore_138 (fun H locs hP hD hS => ?_)
                    have hP : va_P (dC, dI) vwCl (([(h0, .inr (8, [.int (g21 0 D), .ref ti, .ref to])), (ti, .inl (G 4, 11, .inr (.inr (.inr (.inr (fun ir => if ir < 11 then some (ri ir) else none)))))), (to, .inl (G 4, 11, .inr (.inr (.inr (.inr (fun ir => if ir < 11 then some (ro ir) else none)))))), (wy, .inr (9, [.int (nI N), .int (nI B), .int (nI D), .ref a1, .ref a2, .ref a3, .ref a4, .ref a5, .ref a6])), (a1, .inl (G 0, 10, .inl f1)), (a2, .inl (G 0, 10, .inl f2)), (a3, .inl (G 0, 10, .inl f3)), (a4, .inl (G 0, 6, .inl f4)), (a5, .inl (G 0, 6, .inl f5)), (a6, .inl (G 0, 6, .inl f6)), (mk, .inr (3, [.int (nI S), .ref m1, .ref m2])), (m1, .inl (G 0, 6, .inl z1)), (m2, .inl (G 0, 6, .inl z2))] : va_W) ++ ((((List.range 11).map (fun iq => (ri iq, .inl (G 0, 10, .inl (g20 iq))))) : va_W) ++ ((((List.range 11).map (fun iq => (ro iq, .inl (G 0, 10, .inl (g21 iq))))) : va_W) ++ []))) H := hP
                    have hD : va_D A (([(h0, .inr (8, [.int (g21 0 D), .ref ti, .ref to])), (ti, .inl (G 4, 11, .inr (.inr (.inr (.inr (fun ir => if ir < 11 then some (ri ir) else none)))))), (to, .inl (G 4, 11, .inr (.inr (.inr (.inr (fun ir => if ir < 11 then some (ro ir) else none)))))), (wy, .inr (9, [.int (nI N), .int (nI B), .int (nI D), .ref a1, .ref a2, .ref a3, .ref a4, .ref a5, .ref a6])), (a1, .inl (G 0, 10, .inl f1)), (a2, .inl (G 0, 10, .inl f2)), (a3, .inl (G 0, 10, .inl f3)), (a4, .inl (G 0, 6, .inl f4)), (a5, .inl (G 0, 6, .inl f5)), (a6, .inl (G 0, 6, .inl f6)), (mk, .inr (3, [.int (nI S), .ref m1, .ref m2])), (m1, .inl (G 0, 6, .inl z1)), (m2, .inl (G 0, 6, .inl z2))] : va_W) ++ ((((List.range 11).map (fun iq => (ri iq, .inl (G 0, 10, .inl (g20 iq))))) : va_W) ++ ((((List.range 11).map (fun iq => (ro iq, .inl (G 0, 10, .inl (g21 iq))))) : va_W) ++ []))) := hD
                    have hP9 := hP.sub (ws' := (([(h0, .inr (8, [.int (g21 0 D), .ref ti, .ref to])), (ti, .inl (G 4, 11, .inr (.inr (.inr (.inr (fun ir => if ir < 11 then some (ri ir) else none)))))), (to, .inl (G 4, 11, .inr (.inr (.inr (.inr (fun ir => if ir < 11 then some (ro ir) else none)))))), (wy, .inr (9, [.int (nI N), .int (nI B), .int (nI D), .ref a1, .ref a2, .ref a3, .ref a4, .ref a5, .ref a6])), (a1, .inl (G 0, 10, .inl f1)), (a2, .inl (G 0, 10, .inl f2)), (a3, .inl (G 0, 10, .inl f3)), (a4, .inl (G 0, 6, .inl f4)), (a5, .inl (G 0, 6, .inl f5)), (a6, .inl (G 0, 6, .inl f6)), (mk, .inr (3, [.int (nI S), .ref m1, .ref m2])), (m1, .inl (G 0, 6, .inl z1)), (m2, .inl (G 0, 6, .inl z2))] : va_W) ++ ((((List.range 11).map (fun iq => (ri iq, .inl (G 0, 10, .inl (g20 iq))))) : va_W) ++ ((((List.range 11).map (fun iq => (ro iq, .inl (G 0, 10, .inl (g21 iq))))) : va_W) ++ [])))) [0, 1, 2, 3, 4, 5, 6, 7, 8, 9, 10, 11, 12, 13, 14, 15, 16, 17, 18, 19, 20, 21, 22, 23, 24, 25, 26, 27, 28, 29, 30, 31, 32, 33, 34] rfl
                    have hD9 := hD.sub (ws' := (([(h0, .inr (8, [.int (g21 0 D), .ref ti, .ref to])), (ti, .inl (G 4, 11, .inr (.inr (.inr (.inr (fun ir => if ir < 11 then some (ri ir) else none)))))), (to, .inl (G 4, 11, .inr (.inr (.inr (.inr (fun ir => if ir < 11 then some (ro ir) else none)))))), (wy, .inr (9, [.int (nI N), .int (nI B), .int (nI D), .ref a1, .ref a2, .ref a3, .ref a4, .ref a5, .ref a6])), (a1, .inl (G 0, 10, .inl f1)), (a2, .inl (G 0, 10, .inl f2)), (a3, .inl (G 0, 10, .inl f3)), (a4, .inl (G 0, 6, .inl f4)), (a5, .inl (G 0, 6, .inl f5)), (a6, .inl (G 0, 6, .inl f6)), (mk, .inr (3, [.int (nI S), .ref m1, .ref m2])), (m1, .inl (G 0, 6, .inl z1)), (m2, .inl (G 0, 6, .inl z2))] : va_W) ++ ((((List.range 11).map (fun iq => (ri iq, .inl (G 0, 10, .inl (g20 iq))))) : va_W) ++ ((((List.range 11).map (fun iq => (ro iq, .inl (G 0, 10, .inl (g21 iq))))) : va_W) ++ [])))) [0, 1, 2, 3, 4, 5, 6, 7, 8, 9, 10, 11, 12, 13, 14, 15, 16, 17, 18, 19, 20, 21, 22, 23, 24, 25, 26, 27, 28, 29, 30, 31, 32, 33, 34] (by decide) rfl
                    refine W.widen (k := 0) (n := 0) (by omega) (by omega) ?_
                    exact W.vret hx hb hr (fun t ht hW => ⟨⟨((g21 0 D), g20, g21), rfl, trivial, ⟨by rw [ht]; exact hP9, hD9⟩⟩, hS.F ht⟩) hS.2.2 dX8_explore_141
                  · skip
                    exact absurd c24 (by decide)
                | succ j18 ih93_22 =>
                  intro hj23 y19 g20 g21 H locs hP hD hS ls hl
                  have hl : lv_has ls 4 [(3, .int (nI j18)), (0, .ref h0), (1, .ref wy), (2, .ref mk)] := hl
                  refine lv_iload_n hx hb dX8_explore_93 rfl (lv_at hl 0 rfl) ?_
                  refine lv_if_lt (tgt := 126) hx hb dX8_explore_94 (by decide) (fun c25 => ?_) (fun c25 => ?_)
                  · skip
                    have t_hj6 := hj6
                    have t_n8 := n8
                    have t_hj15 := hj15
                    have t_n17 := n17
                    have t_hj23 := hj23
                    have t_c25 := ltI c25
                    have : (0 : Int32).toInt = 0 := (by decide)
                    have t_n0 : (nI N).toInt = (N : Int) := nI_toInt (by omega)
                    have t_n1 : (nI B).toInt = (B : Int) := nI_toInt (by omega)
                    have t_n2 : (nI D).toInt = (D : Int) := nI_toInt (by omega)
                    have t_n3 : (nI S).toInt = (S : Int) := nI_toInt (by omega)
                    have t_n4 : (nI j1).toInt = (j1 : Int) := nI_toInt (by omega)
                    have t_n5 : (nI j9).toInt = (j9 : Int) := nI_toInt (by omega)
                    have t_n6 : (nI j18).toInt = (j18 : Int) := nI_toInt (by omega)
                    have t_n0 : (nI N).toInt = (N : Int) := nI_toInt (by omega)
                    have t_n1 : (nI B).toInt = (B : Int) := nI_toInt (by omega)
                    have t_n2 : (nI D).toInt = (D : Int) := nI_toInt (by omega)
                    have t_n3 : (nI S).toInt = (S : Int) := nI_toInt (by omega)
                    have t_n4 : (nI j1).toInt = (j1 : Int) := nI_toInt (by omega)
                    have t_n5 : (nI j9).toInt = (j9 : Int) := nI_toInt (by omega)
                    have t_n6 : (nI j18).toInt = (j18 : Int) := nI_toInt (by omega)
                    exfalso; omega
                  · skip
                    have n26 : 0 ≤ j18 := by have t := nltI c25; rw [nI_toInt (n := j18) (by omega)] at t; have : (0 : Int32).toInt = 0 := (by decide); omega
                    refine lv_aload_n hx hb dX8_explore_97 rfl (lv_at hl 1 rfl) ?_
                    refine va_get (D := (dC, dI)) (ci := 8) (v := .ref to) (C := RX8) (T := TX8) (N := 3) hx hb hg inG8 hown hK.1 hP 0 rfl rfl 2 (by decide) (hg _ wt_261) (fun _ h9 => h9) rfl dX8_explore_98 ?_
                    refine lv_iload_n hx hb dX8_explore_101 rfl (lv_at hl 0 rfl) ?_
                    refine lv_iconst (v := 1) hx hb dX8_explore_102 (by decide) ?_
                    refine lv_iadd hx hb dX8_explore_103 ?_
                    refine lv_cg (y := nI (j18 + 1)) (by rw [show (1 : Int32) = nI 1 from rfl]; exact nI_add _ _) ?_
                    refine va_aldA hx hb hK.1 hP 2 4 rfl rfl (vp_in_nI (by have t_hj6 := hj6; have t_n8 := n8; have t_hj15 := hj15; have t_n17 := n17; have t_hj23 := hj23; have t_n26 := n26; have t_n0 : (nI N).toInt = (N : Int) := nI_toInt (by omega); have t_n1 : (nI B).toInt = (B : Int) := nI_toInt (by omega); have t_n2 : (nI D).toInt = (D : Int) := nI_toInt (by omega); have t_n3 : (nI S).toInt = (S : Int) := nI_toInt (by omega); have t_n4 : (nI j1).toInt = (j1 : Int) := nI_toInt (by omega); have t_n5 : (nI j9).toInt = (j9 : Int) := nI_toInt (by omega); have t_n6 : (nI j18).toInt = (j18 : Int) := nI_toInt (by omega); omega) (by decide)) dX8_explore_104 ?_
                    refine lv_cgv (y := .ref (ro (j18 + 1))) (rowref (by have t_hj6 := hj6; have t_n8 := n8; have t_hj15 := hj15; have t_n17 := n17; have t_hj23 := hj23; have t_n26 := n26; have t_n0 : (nI N).toInt = (N : Int) := nI_toInt (by omega); have t_n1 : (nI B).toInt = (B : Int) := nI_toInt (by omega); have t_n2 : (nI D).toInt = (D : Int) := nI_toInt (by omega); have t_n3 : (nI S).toInt = (S : Int) := nI_toInt (by omega); have t_n4 : (nI j1).toInt = (j1 : Int) := nI_toInt (by omega); have t_n5 : (nI j9).toInt = (j9 : Int) := nI_toInt (by omega); have t_n6 : (nI j18).toInt = (j18 : Int) := nI_toInt (by omega); omega) (by decide)) ?_
                    refine lv_aload_n hx hb dX8_explore_105 rfl (lv_at hl 3 rfl) ?_
                    refine lv_iload_n hx hb dX8_explore_106 rfl (lv_at hl 0 rfl) ?_
                    have hPc := hP.sub (ws' := (([(mk, .inr (3, [.int (nI S), .ref m1, .ref m2])), (m1, .inl (G 0, 6, .inl z1)), (m2, .inl (G 0, 6, .inl z2))] : va_W) ++ ((((List.range 11).map (fun iq => (ri iq, .inl (G 0, 10, .inl (g20 iq))))) : va_W) ++ ((((List.range 11).map (fun iq => (ro iq, .inl (G 0, 10, .inl (g21 iq))))) : va_W) ++ [])))) [10, 11, 12, 13, 14, 15, 16, 17, 18, 19, 20, 21, 22, 23, 24, 25, 26, 27, 28, 29, 30, 31, 32, 33, 34] rfl
                    have hDc := hD.sub (ws' := (([(mk, .inr (3, [.int (nI S), .ref m1, .ref m2])), (m1, .inl (G 0, 6, .inl z1)), (m2, .inl (G 0, 6, .inl z2))] : va_W) ++ ((((List.range 11).map (fun iq => (ri iq, .inl (G 0, 10, .inl (g20 iq))))) : va_W) ++ ((((List.range 11).map (fun iq => (ro iq, .inl (G 0, 10, .inl (g21 iq))))) : va_W) ++ [])))) [10, 11, 12, 13, 14, 15, 16, 17, 18, 19, 20, 21, 22, 23, 24, 25, 26, 27, 28, 29, 30, 31, 32, 33, 34] (by decide) rfl
                    have hFc := va_free (wc := (([(mk, .inr (3, [.int (nI S), .ref m1, .ref m2])), (m1, .inl (G 0, 6, .inl z1)), (m2, .inl (G 0, 6, .inl z2))] : va_W) ++ ((((List.range 11).map (fun iq => (ri iq, .inl (G 0, 10, .inl (g20 iq))))) : va_W) ++ ((((List.range 11).map (fun iq => (ro iq, .inl (G 0, 10, .inl (g21 iq))))) : va_W) ++ [])))) hD hS hA [10, 11, 12, 13, 14, 15, 16, 17, 18, 19, 20, 21, 22, 23, 24, 25, 26, 27, 28, 29, 30, 31, 32, 33, 34] rfl
                    refine va_callv (va_runS (As := [.ref (ro (j18 + 1)), .ref mk, .int (nI j18)]) (rest := []) ⟨hx, hb, hml, hown, hg⟩ (c_X8_dropUnmarked2 l dC dI G _ mk m1 m2 S (j18 + 1) (nI j18) z1 z2 ri ro g20 g21 (by have t_hj6 := hj6; have t_n8 := n8; have t_hj15 := hj15; have t_n17 := n17; have t_hj23 := hj23; have t_n26 := n26; have t_n0 : (nI N).toInt = (N : Int) := nI_toInt (by omega); have t_n1 : (nI B).toInt = (B : Int) := nI_toInt (by omega); have t_n2 : (nI D).toInt = (D : Int) := nI_toInt (by omega); have t_n3 : (nI S).toInt = (S : Int) := nI_toInt (by omega); have t_n4 : (nI j1).toInt = (j1 : Int) := nI_toInt (by omega); have t_n5 : (nI j9).toInt = (j9 : Int) := nI_toInt (by omega); have t_n6 : (nI j18).toInt = (j18 : Int) := nI_toInt (by omega); omega) (by have t_hj6 := hj6; have t_n8 := n8; have t_hj15 := hj15; have t_n17 := n17; have t_hj23 := hj23; have t_n26 := n26; have t_n0 : (nI N).toInt = (N : Int) := nI_toInt (by omega); have t_n1 : (nI B).toInt = (B : Int) := nI_toInt (by omega); have t_n2 : (nI D).toInt = (D : Int) := nI_toInt (by omega); have t_n3 : (nI S).toInt = (S : Int) := nI_toInt (by omega); have t_n4 : (nI j1).toInt = (j1 : Int) := nI_toInt (by omega); have t_n5 : (nI j9).toInt = (j9 : Int) := nI_toInt (by omega); have t_n6 : (nI j18).toInt = (j18 : Int) := nI_toInt (by omega); omega)) (kwS hg mfX8_dropUnmarked wt_777 ⟨Nat.le_of_ble_eq_true rfl, Nat.le_of_ble_eq_true rfl⟩) (preSW hK hPc hDc) rfl rfl hl.1 rfl (lv_room (Nat.le_of_ble_eq_true rfl)) dX8_explore_107 ⟨Nat.le_of_ble_eq_true rfl, Nat.le_of_ble_eq_true rfl⟩) hS (fun q _ h => hFc q h) hFc (fun ur27 t H1 locs ht hvm w28 hB hz1 hk1 hS => ?_)
                    obtain ⟨u29, u30⟩ := ur27
                    obtain ⟨hP1, hD1⟩ := hB
                    rw [ht] at hP1
                    obtain ⟨hP, hD⟩ := va_join (wr := [(h0, .inr (8, [.int y19, .ref ti, .ref to])), (ti, .inl (G 4, 11, .inr (.inr (.inr (.inr (fun ir => if ir < 11 then some (ri ir) else none)))))), (to, .inl (G 4, 11, .inr (.inr (.inr (.inr (fun ir => if ir < 11 then some (ro ir) else none)))))), (wy, .inr (9, [.int (nI N), .int (nI B), .int (nI D), .ref a1, .ref a2, .ref a3, .ref a4, .ref a5, .ref a6])), (a1, .inl (G 0, 10, .inl f1)), (a2, .inl (G 0, 10, .inl f2)), (a3, .inl (G 0, 10, .inl f3)), (a4, .inl (G 0, 6, .inl f4)), (a5, .inl (G 0, 6, .inl f5)), (a6, .inl (G 0, 6, .inl f6))]) (w1 := (([(mk, .inr (3, [.int (nI S), .ref m1, .ref m2])), (m1, .inl (G 0, 6, .inl z1)), (m2, .inl (G 0, 6, .inl z2))] : va_W) ++ ((((List.range 11).map (fun iq => (ri iq, .inl (G 0, 10, .inl (u29 iq))))) : va_W) ++ ((((List.range 11).map (fun iq => (ro iq, .inl (G 0, 10, .inl (u30 iq))))) : va_W) ++ [])))) hP hD [10, 11, 12, 13, 14, 15, 16, 17, 18, 19, 20, 21, 22, 23, 24, 25, 26, 27, 28, 29, 30, 31, 32, 33, 34] [0, 1, 2, 3, 4, 5, 6, 7, 8, 9] rfl rfl (by decide) (by decide) hk1 hFc hP1 hD1
                    generalize H1 = H at hP hS ⊢
                    have hP : va_P (dC, dI) vwCl (([(h0, .inr (8, [.int y19, .ref ti, .ref to])), (ti, .inl (G 4, 11, .inr (.inr (.inr (.inr (fun ir => if ir < 11 then some (ri ir) else none)))))), (to, .inl (G 4, 11, .inr (.inr (.inr (.inr (fun ir => if ir < 11 then some (ro ir) else none)))))), (wy, .inr (9, [.int (nI N), .int (nI B), .int (nI D), .ref a1, .ref a2, .ref a3, .ref a4, .ref a5, .ref a6])), (a1, .inl (G 0, 10, .inl f1)), (a2, .inl (G 0, 10, .inl f2)), (a3, .inl (G 0, 10, .inl f3)), (a4, .inl (G 0, 6, .inl f4)), (a5, .inl (G 0, 6, .inl f5)), (a6, .inl (G 0, 6, .inl f6)), (mk, .inr (3, [.int (nI S), .ref m1, .ref m2])), (m1, .inl (G 0, 6, .inl z1)), (m2, .inl (G 0, 6, .inl z2))] : va_W) ++ ((((List.range 11).map (fun iq => (ri iq, .inl (G 0, 10, .inl (u29 iq))))) : va_W) ++ ((((List.range 11).map (fun iq => (ro iq, .inl (G 0, 10, .inl (u30 iq))))) : va_W) ++ []))) H := hP
                    have hD : va_D A (([(h0, .inr (8, [.int y19, .ref ti, .ref to])), (ti, .inl (G 4, 11, .inr (.inr (.inr (.inr (fun ir => if ir < 11 then some (ri ir) else none)))))), (to, .inl (G 4, 11, .inr (.inr (.inr (.inr (fun ir => if ir < 11 then some (ro ir) else none)))))), (wy, .inr (9, [.int (nI N), .int (nI B), .int (nI D), .ref a1, .ref a2, .ref a3, .ref a4, .ref a5, .ref a6])), (a1, .inl (G 0, 10, .inl f1)), (a2, .inl (G 0, 10, .inl f2)), (a3, .inl (G 0, 10, .inl f3)), (a4, .inl (G 0, 6, .inl f4)), (a5, .inl (G 0, 6, .inl f5)), (a6, .inl (G 0, 6, .inl f6)), (mk, .inr (3, [.int (nI S), .ref m1, .ref m2])), (m1, .inl (G 0, 6, .inl z1)), (m2, .inl (G 0, 6, .inl z2))] : va_W) ++ ((((List.range 11).map (fun iq => (ri iq, .inl (G 0, 10, .inl (u29 iq))))) : va_W) ++ ((((List.range 11).map (fun iq => (ro iq, .inl (G 0, 10, .inl (u30 iq))))) : va_W) ++ []))) := hD
                    refine lv_aload_n hx hb dX8_explore_110 rfl (lv_at hl 1 rfl) ?_
                    refine lv_aload_n hx hb dX8_explore_111 rfl (lv_at hl 2 rfl) ?_
                    refine lv_iload_n hx hb dX8_explore_112 rfl (lv_at hl 0 rfl) ?_
                    have hPc := hP.sub (ws' := [(wy, .inr (9, [.int (nI N), .int (nI B), .int (nI D), .ref a1, .ref a2, .ref a3, .ref a4, .ref a5, .ref a6])), (a1, .inl (G 0, 10, .inl f1)), (a2, .inl (G 0, 10, .inl f2)), (a3, .inl (G 0, 10, .inl f3)), (a4, .inl (G 0, 6, .inl f4)), (a5, .inl (G 0, 6, .inl f5)), (a6, .inl (G 0, 6, .inl f6))]) [3, 4, 5, 6, 7, 8, 9] rfl
                    refine va_calli (va_runVN (As := [.int (nI j18)]) (rest := [.ref h0]) ⟨hx, hb, hml, hown, hg⟩ (c_X9_harmInOrder l dC dI G _ wy a1 a2 a3 a4 a5 a6 N B D (nI j18) f1 f2 f3 f4 f5 f6 (by have t_hj6 := hj6; have t_n8 := n8; have t_hj15 := hj15; have t_n17 := n17; have t_hj23 := hj23; have t_n26 := n26; have t_n0 : (nI N).toInt = (N : Int) := nI_toInt (by omega); have t_n1 : (nI B).toInt = (B : Int) := nI_toInt (by omega); have t_n2 : (nI D).toInt = (D : Int) := nI_toInt (by omega); have t_n3 : (nI S).toInt = (S : Int) := nI_toInt (by omega); have t_n4 : (nI j1).toInt = (j1 : Int) := nI_toInt (by omega); have t_n5 : (nI j9).toInt = (j9 : Int) := nI_toInt (by omega); have t_n6 : (nI j18).toInt = (j18 : Int) := nI_toInt (by omega); omega) (by have t_hj6 := hj6; have t_n8 := n8; have t_hj15 := hj15; have t_n17 := n17; have t_hj23 := hj23; have t_n26 := n26; have t_n0 : (nI N).toInt = (N : Int) := nI_toInt (by omega); have t_n1 : (nI B).toInt = (B : Int) := nI_toInt (by omega); have t_n2 : (nI D).toInt = (D : Int) := nI_toInt (by omega); have t_n3 : (nI S).toInt = (S : Int) := nI_toInt (by omega); have t_n4 : (nI j1).toInt = (j1 : Int) := nI_toInt (by omega); have t_n5 : (nI j9).toInt = (j9 : Int) := nI_toInt (by omega); have t_n6 : (nI j18).toInt = (j18 : Int) := nI_toInt (by omega); omega) (by have t_hj6 := hj6; have t_n8 := n8; have t_hj15 := hj15; have t_n17 := n17; have t_hj23 := hj23; have t_n26 := n26; have t_n0 : (nI N).toInt = (N : Int) := nI_toInt (by omega); have t_n1 : (nI B).toInt = (B : Int) := nI_toInt (by omega); have t_n2 : (nI D).toInt = (D : Int) := nI_toInt (by omega); have t_n3 : (nI S).toInt = (S : Int) := nI_toInt (by omega); have t_n4 : (nI j1).toInt = (j1 : Int) := nI_toInt (by omega); have t_n5 : (nI j9).toInt = (j9 : Int) := nI_toInt (by omega); have t_n6 : (nI j18).toInt = (j18 : Int) := nI_toInt (by omega); omega)) (kwVN hg hK mfX9_harmInOrder wn_771 ⟨Nat.le_of_ble_eq_true rfl, Nat.le_of_ble_eq_true rfl⟩) (preVR hK hPc (ci := 9) rfl rfl) rfl rfl hl.1 rfl (lv_room (Nat.le_of_ble_eq_true rfl)) dX8_explore_113 ⟨Nat.le_of_ble_eq_true rfl, Nat.le_of_ble_eq_true rfl⟩) hS (fun q h1 h2 => absurd h2 (Nat.not_le.mpr h1)) (fun q h => hA q (Nat.le_trans hS.1 h)) (fun r31 ur31 t H1 locs ht hvm w32 hB hz1 hk1 hS => ?_)
                    have hP := keepR hP hk1
                    obtain ⟨w32, w32x⟩ := w32
                    subst w32
                    refine lv_iload_n hx hb dX8_explore_116 rfl (lv_at hl 0 rfl) ?_
                    have hPc := hP.sub (ws' := (([(h0, .inr (8, [.int y19, .ref ti, .ref to])), (ti, .inl (G 4, 11, .inr (.inr (.inr (.inr (fun ir => if ir < 11 then some (ri ir) else none)))))), (to, .inl (G 4, 11, .inr (.inr (.inr (.inr (fun ir => if ir < 11 then some (ro ir) else none))))))] : va_W) ++ ((((List.range 11).map (fun iq => (ri iq, .inl (G 0, 10, .inl (u29 iq))))) : va_W) ++ ((((List.range 11).map (fun iq => (ro iq, .inl (G 0, 10, .inl (u30 iq))))) : va_W) ++ [])))) [0, 1, 2, 13, 14, 15, 16, 17, 18, 19, 20, 21, 22, 23, 24, 25, 26, 27, 28, 29, 30, 31, 32, 33, 34] rfl
                    have hDc := hD.sub (ws' := (([(h0, .inr (8, [.int y19, .ref ti, .ref to])), (ti, .inl (G 4, 11, .inr (.inr (.inr (.inr (fun ir => if ir < 11 then some (ri ir) else none)))))), (to, .inl (G 4, 11, .inr (.inr (.inr (.inr (fun ir => if ir < 11 then some (ro ir) else none))))))] : va_W) ++ ((((List.range 11).map (fun iq => (ri iq, .inl (G 0, 10, .inl (u29 iq))))) : va_W) ++ ((((List.range 11).map (fun iq => (ro iq, .inl (G 0, 10, .inl (u30 iq))))) : va_W) ++ [])))) [0, 1, 2, 13, 14, 15, 16, 17, 18, 19, 20, 21, 22, 23, 24, 25, 26, 27, 28, 29, 30, 31, 32, 33, 34] (by decide) rfl
                    have hFc := va_free (wc := (([(h0, .inr (8, [.int y19, .ref ti, .ref to])), (ti, .inl (G 4, 11, .inr (.inr (.inr (.inr (fun ir => if ir < 11 then some (ri ir) else none)))))), (to, .inl (G 4, 11, .inr (.inr (.inr (.inr (fun ir => if ir < 11 then some (ro ir) else none))))))] : va_W) ++ ((((List.range 11).map (fun iq => (ri iq, .inl (G 0, 10, .inl (u29 iq))))) : va_W) ++ ((((List.range 11).map (fun iq => (ro iq, .inl (G 0, 10, .inl (u30 iq))))) : va_W) ++ [])))) hD hS hA [0, 1, 2, 13, 14, 15, 16, 17, 18, 19, 20, 21, 22, 23, 24, 25, 26, 27, 28, 29, 30, 31, 32, 33, 34] rfl
                    refine va_callv (va_runV (As := [.int (hmO N B f1 f2 f3 f4 f5 f6 (nI j18)), .int (nI j18)]) (rest := []) ⟨hx, hb, hml, hown, hg⟩ (c_X8_leadOnward l dC dI G _ h0 ti to j18 (hmO N B f1 f2 f3 f4 f5 f6 (nI j18)) y19 ri ro u29 u30 (by have t_hj6 := hj6; have t_n8 := n8; have t_hj15 := hj15; have t_n17 := n17; have t_hj23 := hj23; have t_n26 := n26; have t_n0 : (nI N).toInt = (N : Int) := nI_toInt (by omega); have t_n1 : (nI B).toInt = (B : Int) := nI_toInt (by omega); have t_n2 : (nI D).toInt = (D : Int) := nI_toInt (by omega); have t_n3 : (nI S).toInt = (S : Int) := nI_toInt (by omega); have t_n4 : (nI j1).toInt = (j1 : Int) := nI_toInt (by omega); have t_n5 : (nI j9).toInt = (j9 : Int) := nI_toInt (by omega); have t_n6 : (nI j18).toInt = (j18 : Int) := nI_toInt (by omega); omega)) (kwV hg mfX8_leadOnward wt_784 ⟨Nat.le_of_ble_eq_true rfl, Nat.le_of_ble_eq_true rfl⟩) (preVW hK hPc hDc (ci := 8) rfl rfl) rfl rfl hl.1 rfl (lv_room (Nat.le_of_ble_eq_true rfl)) dX8_explore_117 ⟨Nat.le_of_ble_eq_true rfl, Nat.le_of_ble_eq_true rfl⟩) hS (fun q _ h => hFc q h) hFc (fun ur33 t H1 locs ht hvm w34 hB hz1 hk1 hS => ?_)
                    obtain ⟨u35, u36, u37⟩ := ur33
                    obtain ⟨hP1, hD1⟩ := hB
                    rw [ht] at hP1
                    obtain ⟨hP, hD⟩ := va_join (wr := [(wy, .inr (9, [.int (nI N), .int (nI B), .int (nI D), .ref a1, .ref a2, .ref a3, .ref a4, .ref a5, .ref a6])), (a1, .inl (G 0, 10, .inl f1)), (a2, .inl (G 0, 10, .inl f2)), (a3, .inl (G 0, 10, .inl f3)), (a4, .inl (G 0, 6, .inl f4)), (a5, .inl (G 0, 6, .inl f5)), (a6, .inl (G 0, 6, .inl f6)), (mk, .inr (3, [.int (nI S), .ref m1, .ref m2])), (m1, .inl (G 0, 6, .inl z1)), (m2, .inl (G 0, 6, .inl z2))]) (w1 := (([(h0, .inr (8, [.int u35, .ref ti, .ref to])), (ti, .inl (G 4, 11, .inr (.inr (.inr (.inr (fun ir => if ir < 11 then some (ri ir) else none)))))), (to, .inl (G 4, 11, .inr (.inr (.inr (.inr (fun ir => if ir < 11 then some (ro ir) else none))))))] : va_W) ++ ((((List.range 11).map (fun iq => (ri iq, .inl (G 0, 10, .inl (u36 iq))))) : va_W) ++ ((((List.range 11).map (fun iq => (ro iq, .inl (G 0, 10, .inl (u37 iq))))) : va_W) ++ [])))) hP hD [0, 1, 2, 13, 14, 15, 16, 17, 18, 19, 20, 21, 22, 23, 24, 25, 26, 27, 28, 29, 30, 31, 32, 33, 34] [3, 4, 5, 6, 7, 8, 9, 10, 11, 12] rfl rfl (by decide) (by decide) hk1 hFc hP1 hD1
                    generalize H1 = H at hP hS ⊢
                    have hP : va_P (dC, dI) vwCl (([(wy, .inr (9, [.int (nI N), .int (nI B), .int (nI D), .ref a1, .ref a2, .ref a3, .ref a4, .ref a5, .ref a6])), (a1, .inl (G 0, 10, .inl f1)), (a2, .inl (G 0, 10, .inl f2)), (a3, .inl (G 0, 10, .inl f3)), (a4, .inl (G 0, 6, .inl f4)), (a5, .inl (G 0, 6, .inl f5)), (a6, .inl (G 0, 6, .inl f6)), (mk, .inr (3, [.int (nI S), .ref m1, .ref m2])), (m1, .inl (G 0, 6, .inl z1)), (m2, .inl (G 0, 6, .inl z2)), (h0, .inr (8, [.int u35, .ref ti, .ref to])), (ti, .inl (G 4, 11, .inr (.inr (.inr (.inr (fun ir => if ir < 11 then some (ri ir) else none)))))), (to, .inl (G 4, 11, .inr (.inr (.inr (.inr (fun ir => if ir < 11 then some (ro ir) else none))))))] : va_W) ++ ((((List.range 11).map (fun iq => (ri iq, .inl (G 0, 10, .inl (u36 iq))))) : va_W) ++ ((((List.range 11).map (fun iq => (ro iq, .inl (G 0, 10, .inl (u37 iq))))) : va_W) ++ []))) H := hP
                    have hD : va_D A (([(wy, .inr (9, [.int (nI N), .int (nI B), .int (nI D), .ref a1, .ref a2, .ref a3, .ref a4, .ref a5, .ref a6])), (a1, .inl (G 0, 10, .inl f1)), (a2, .inl (G 0, 10, .inl f2)), (a3, .inl (G 0, 10, .inl f3)), (a4, .inl (G 0, 6, .inl f4)), (a5, .inl (G 0, 6, .inl f5)), (a6, .inl (G 0, 6, .inl f6)), (mk, .inr (3, [.int (nI S), .ref m1, .ref m2])), (m1, .inl (G 0, 6, .inl z1)), (m2, .inl (G 0, 6, .inl z2)), (h0, .inr (8, [.int u35, .ref ti, .ref to])), (ti, .inl (G 4, 11, .inr (.inr (.inr (.inr (fun ir => if ir < 11 then some (ri ir) else none)))))), (to, .inl (G 4, 11, .inr (.inr (.inr (.inr (fun ir => if ir < 11 then some (ro ir) else none))))))] : va_W) ++ ((((List.range 11).map (fun iq => (ri iq, .inl (G 0, 10, .inl (u36 iq))))) : va_W) ++ ((((List.range 11).map (fun iq => (ro iq, .inl (G 0, 10, .inl (u37 iq))))) : va_W) ++ []))) := hD
                    refine lv_iinc (v := dn j18) (lv' := [(3, .int (dn j18)), (0, .ref h0), (1, .ref wy), (2, .ref mk)]) hx hb dX8_explore_120 hl (k := 0) rfl (by exact dn_pred _) (by decide) rfl (fun ls hl => ?_)
                    refine lv_goto (tgt := 93) hx hb dX8_explore_123 (by decide) ?_
                    exact ih93_22 (by omega) u35 u36 u37 _ _ (hP.sub [10, 11, 12, 0, 1, 2, 3, 4, 5, 6, 7, 8, 9, 13, 14, 15, 16, 17, 18, 19, 20, 21, 22, 23, 24, 25, 26, 27, 28, 29, 30, 31, 32, 33, 34] rfl) (hD.sub [10, 11, 12, 0, 1, 2, 3, 4, 5, 6, 7, 8, 9, 13, 14, 15, 16, 17, 18, 19, 20, 21, 22, 23, 24, 25, 26, 27, 28, 29, 30, 31, 32, 33, 34] (by decide) rfl) hS ls (lv_sub hl [0, 1, 2, 3] rfl)
              exact loop93_22 N (Nat.le_refl _) y10 g11 g12 _ _ hP hD hS ls (lv_sub hl [0, 1, 2, 3] rfl)
            · skip
              have n38 : j9 < N := by have t := nleI c16; rw [nI_toInt (n := j9) (by omega)] at t; rw [nI_toInt (n := N) (by omega)] at t; omega
              refine lv_aload_n hx hb dX8_explore_57 rfl (lv_at hl 1 rfl) ?_
              refine lv_aload_n hx hb dX8_explore_58 rfl (lv_at hl 2 rfl) ?_
              refine lv_iload_n hx hb dX8_explore_59 rfl (lv_at hl 0 rfl) ?_
              have hPc := hP.sub (ws' := [(wy, .inr (9, [.int (nI N), .int (nI B), .int (nI D), .ref a1, .ref a2, .ref a3, .ref a4, .ref a5, .ref a6])), (a1, .inl (G 0, 10, .inl f1)), (a2, .inl (G 0, 10, .inl f2)), (a3, .inl (G 0, 10, .inl f3)), (a4, .inl (G 0, 6, .inl f4)), (a5, .inl (G 0, 6, .inl f5)), (a6, .inl (G 0, 6, .inl f6))]) [3, 4, 5, 6, 7, 8, 9] rfl
              refine va_calli (va_runVN (As := [.int (nI j9)]) (rest := [.ref h0]) ⟨hx, hb, hml, hown, hg⟩ (c_X9_harmInOrder l dC dI G _ wy a1 a2 a3 a4 a5 a6 N B D (nI j9) f1 f2 f3 f4 f5 f6 (by have t_hj6 := hj6; have t_n8 := n8; have t_hj15 := hj15; have t_n38 := n38; have t_n0 : (nI N).toInt = (N : Int) := nI_toInt (by omega); have t_n1 : (nI B).toInt = (B : Int) := nI_toInt (by omega); have t_n2 : (nI D).toInt = (D : Int) := nI_toInt (by omega); have t_n3 : (nI S).toInt = (S : Int) := nI_toInt (by omega); have t_n4 : (nI j1).toInt = (j1 : Int) := nI_toInt (by omega); have t_n5 : (nI j9).toInt = (j9 : Int) := nI_toInt (by omega); omega) (by have t_hj6 := hj6; have t_n8 := n8; have t_hj15 := hj15; have t_n38 := n38; have t_n0 : (nI N).toInt = (N : Int) := nI_toInt (by omega); have t_n1 : (nI B).toInt = (B : Int) := nI_toInt (by omega); have t_n2 : (nI D).toInt = (D : Int) := nI_toInt (by omega); have t_n3 : (nI S).toInt = (S : Int) := nI_toInt (by omega); have t_n4 : (nI j1).toInt = (j1 : Int) := nI_toInt (by omega); have t_n5 : (nI j9).toInt = (j9 : Int) := nI_toInt (by omega); omega) (by have t_hj6 := hj6; have t_n8 := n8; have t_hj15 := hj15; have t_n38 := n38; have t_n0 : (nI N).toInt = (N : Int) := nI_toInt (by omega); have t_n1 : (nI B).toInt = (B : Int) := nI_toInt (by omega); have t_n2 : (nI D).toInt = (D : Int) := nI_toInt (by omega); have t_n3 : (nI S).toInt = (S : Int) := nI_toInt (by omega); have t_n4 : (nI j1).toInt = (j1 : Int) := nI_toInt (by omega); have t_n5 : (nI j9).toInt = (j9 : Int) := nI_toInt (by omega); omega)) (kwVN hg hK mfX9_harmInOrder wn_771 ⟨Nat.le_of_ble_eq_true rfl, Nat.le_of_ble_eq_true rfl⟩) (preVR hK hPc (ci := 9) rfl rfl) rfl rfl hl.1 rfl (lv_room (Nat.le_of_ble_eq_true rfl)) dX8_explore_60 ⟨Nat.le_of_ble_eq_true rfl, Nat.le_of_ble_eq_true rfl⟩) hS (fun q h1 h2 => absurd h2 (Nat.not_le.mpr h1)) (fun q h => hA q (Nat.le_trans hS.1 h)) (fun r39 ur39 t H1 locs ht hvm w40 hB hz1 hk1 hS => ?_)
              have hP := keepR hP hk1
              obtain ⟨w40, w40x⟩ := w40
              subst w40
              refine lv_iload_n hx hb dX8_explore_63 rfl (lv_at hl 0 rfl) ?_
              have hPc := hP.sub (ws' := (([(h0, .inr (8, [.int y10, .ref ti, .ref to])), (ti, .inl (G 4, 11, .inr (.inr (.inr (.inr (fun ir => if ir < 11 then some (ri ir) else none)))))), (to, .inl (G 4, 11, .inr (.inr (.inr (.inr (fun ir => if ir < 11 then some (ro ir) else none))))))] : va_W) ++ ((((List.range 11).map (fun iq => (ri iq, .inl (G 0, 10, .inl (g11 iq))))) : va_W) ++ ((((List.range 11).map (fun iq => (ro iq, .inl (G 0, 10, .inl (g12 iq))))) : va_W) ++ [])))) [0, 1, 2, 13, 14, 15, 16, 17, 18, 19, 20, 21, 22, 23, 24, 25, 26, 27, 28, 29, 30, 31, 32, 33, 34] rfl
              have hDc := hD.sub (ws' := (([(h0, .inr (8, [.int y10, .ref ti, .ref to])), (ti, .inl (G 4, 11, .inr (.inr (.inr (.inr (fun ir => if ir < 11 then some (ri ir) else none)))))), (to, .inl (G 4, 11, .inr (.inr (.inr (.inr (fun ir => if ir < 11 then some (ro ir) else none))))))] : va_W) ++ ((((List.range 11).map (fun iq => (ri iq, .inl (G 0, 10, .inl (g11 iq))))) : va_W) ++ ((((List.range 11).map (fun iq => (ro iq, .inl (G 0, 10, .inl (g12 iq))))) : va_W) ++ [])))) [0, 1, 2, 13, 14, 15, 16, 17, 18, 19, 20, 21, 22, 23, 24, 25, 26, 27, 28, 29, 30, 31, 32, 33, 34] (by decide) rfl
              have hFc := va_free (wc := (([(h0, .inr (8, [.int y10, .ref ti, .ref to])), (ti, .inl (G 4, 11, .inr (.inr (.inr (.inr (fun ir => if ir < 11 then some (ri ir) else none)))))), (to, .inl (G 4, 11, .inr (.inr (.inr (.inr (fun ir => if ir < 11 then some (ro ir) else none))))))] : va_W) ++ ((((List.range 11).map (fun iq => (ri iq, .inl (G 0, 10, .inl (g11 iq))))) : va_W) ++ ((((List.range 11).map (fun iq => (ro iq, .inl (G 0, 10, .inl (g12 iq))))) : va_W) ++ [])))) hD hS hA [0, 1, 2, 13, 14, 15, 16, 17, 18, 19, 20, 21, 22, 23, 24, 25, 26, 27, 28, 29, 30, 31, 32, 33, 34] rfl
              refine va_callv (va_runV (As := [.int (hmO N B f1 f2 f3 f4 f5 f6 (nI j9)), .int (nI j9)]) (rest := []) ⟨hx, hb, hml, hown, hg⟩ (c_X8_leadInto l dC dI G _ h0 ti to j9 (hmO N B f1 f2 f3 f4 f5 f6 (nI j9)) y10 ri ro g11 g12 (by have t_hj6 := hj6; have t_n8 := n8; have t_hj15 := hj15; have t_n38 := n38; have t_n0 : (nI N).toInt = (N : Int) := nI_toInt (by omega); have t_n1 : (nI B).toInt = (B : Int) := nI_toInt (by omega); have t_n2 : (nI D).toInt = (D : Int) := nI_toInt (by omega); have t_n3 : (nI S).toInt = (S : Int) := nI_toInt (by omega); have t_n4 : (nI j1).toInt = (j1 : Int) := nI_toInt (by omega); have t_n5 : (nI j9).toInt = (j9 : Int) := nI_toInt (by omega); omega)) (kwV hg mfX8_leadInto wt_772 ⟨Nat.le_of_ble_eq_true rfl, Nat.le_of_ble_eq_true rfl⟩) (preVW hK hPc hDc (ci := 8) rfl rfl) rfl rfl hl.1 rfl (lv_room (Nat.le_of_ble_eq_true rfl)) dX8_explore_64 ⟨Nat.le_of_ble_eq_true rfl, Nat.le_of_ble_eq_true rfl⟩) hS (fun q _ h => hFc q h) hFc (fun ur41 t H1 locs ht hvm w42 hB hz1 hk1 hS => ?_)
              obtain ⟨u43, u44, u45⟩ := ur41
              obtain ⟨hP1, hD1⟩ := hB
              rw [ht] at hP1
              obtain ⟨hP, hD⟩ := va_join (wr := [(wy, .inr (9, [.int (nI N), .int (nI B), .int (nI D), .ref a1, .ref a2, .ref a3, .ref a4, .ref a5, .ref a6])), (a1, .inl (G 0, 10, .inl f1)), (a2, .inl (G 0, 10, .inl f2)), (a3, .inl (G 0, 10, .inl f3)), (a4, .inl (G 0, 6, .inl f4)), (a5, .inl (G 0, 6, .inl f5)), (a6, .inl (G 0, 6, .inl f6)), (mk, .inr (3, [.int (nI S), .ref m1, .ref m2])), (m1, .inl (G 0, 6, .inl z1)), (m2, .inl (G 0, 6, .inl z2))]) (w1 := (([(h0, .inr (8, [.int u43, .ref ti, .ref to])), (ti, .inl (G 4, 11, .inr (.inr (.inr (.inr (fun ir => if ir < 11 then some (ri ir) else none)))))), (to, .inl (G 4, 11, .inr (.inr (.inr (.inr (fun ir => if ir < 11 then some (ro ir) else none))))))] : va_W) ++ ((((List.range 11).map (fun iq => (ri iq, .inl (G 0, 10, .inl (u44 iq))))) : va_W) ++ ((((List.range 11).map (fun iq => (ro iq, .inl (G 0, 10, .inl (u45 iq))))) : va_W) ++ [])))) hP hD [0, 1, 2, 13, 14, 15, 16, 17, 18, 19, 20, 21, 22, 23, 24, 25, 26, 27, 28, 29, 30, 31, 32, 33, 34] [3, 4, 5, 6, 7, 8, 9, 10, 11, 12] rfl rfl (by decide) (by decide) hk1 hFc hP1 hD1
              generalize H1 = H at hP hS ⊢
              have hP : va_P (dC, dI) vwCl (([(wy, .inr (9, [.int (nI N), .int (nI B), .int (nI D), .ref a1, .ref a2, .ref a3, .ref a4, .ref a5, .ref a6])), (a1, .inl (G 0, 10, .inl f1)), (a2, .inl (G 0, 10, .inl f2)), (a3, .inl (G 0, 10, .inl f3)), (a4, .inl (G 0, 6, .inl f4)), (a5, .inl (G 0, 6, .inl f5)), (a6, .inl (G 0, 6, .inl f6)), (mk, .inr (3, [.int (nI S), .ref m1, .ref m2])), (m1, .inl (G 0, 6, .inl z1)), (m2, .inl (G 0, 6, .inl z2)), (h0, .inr (8, [.int u43, .ref ti, .ref to])), (ti, .inl (G 4, 11, .inr (.inr (.inr (.inr (fun ir => if ir < 11 then some (ri ir) else none)))))), (to, .inl (G 4, 11, .inr (.inr (.inr (.inr (fun ir => if ir < 11 then some (ro ir) else none))))))] : va_W) ++ ((((List.range 11).map (fun iq => (ri iq, .inl (G 0, 10, .inl (u44 iq))))) : va_W) ++ ((((List.range 11).map (fun iq => (ro iq, .inl (G 0, 10, .inl (u45 iq))))) : va_W) ++ []))) H := hP
              have hD : va_D A (([(wy, .inr (9, [.int (nI N), .int (nI B), .int (nI D), .ref a1, .ref a2, .ref a3, .ref a4, .ref a5, .ref a6])), (a1, .inl (G 0, 10, .inl f1)), (a2, .inl (G 0, 10, .inl f2)), (a3, .inl (G 0, 10, .inl f3)), (a4, .inl (G 0, 6, .inl f4)), (a5, .inl (G 0, 6, .inl f5)), (a6, .inl (G 0, 6, .inl f6)), (mk, .inr (3, [.int (nI S), .ref m1, .ref m2])), (m1, .inl (G 0, 6, .inl z1)), (m2, .inl (G 0, 6, .inl z2)), (h0, .inr (8, [.int u43, .ref ti, .ref to])), (ti, .inl (G 4, 11, .inr (.inr (.inr (.inr (fun ir => if ir < 11 then some (ri ir) else none)))))), (to, .inl (G 4, 11, .inr (.inr (.inr (.inr (fun ir => if ir < 11 then some (ro ir) else none))))))] : va_W) ++ ((((List.range 11).map (fun iq => (ri iq, .inl (G 0, 10, .inl (u44 iq))))) : va_W) ++ ((((List.range 11).map (fun iq => (ro iq, .inl (G 0, 10, .inl (u45 iq))))) : va_W) ++ []))) := hD
              refine lv_aload_n hx hb dX8_explore_67 rfl (lv_at hl 1 rfl) ?_
              refine va_get (D := (dC, dI)) (ci := 8) (v := .ref ti) (C := RX8) (T := TX8) (N := 3) hx hb hg inG8 hown hK.1 hP 10 rfl rfl 1 (by decide) (hg _ wt_260) (fun _ h9 => h9) rfl dX8_explore_68 ?_
              refine lv_iload_n hx hb dX8_explore_71 rfl (lv_at hl 0 rfl) ?_
              refine lv_iconst (v := 1) hx hb dX8_explore_72 (by decide) ?_
              refine lv_iadd hx hb dX8_explore_73 ?_
              refine lv_cg (y := nI (j9 + 1)) (by rw [show (1 : Int32) = nI 1 from rfl]; exact nI_add _ _) ?_
              refine va_aldA hx hb hK.1 hP 11 4 rfl rfl (vp_in_nI (by have t_hj6 := hj6; have t_n8 := n8; have t_hj15 := hj15; have t_n38 := n38; have t_n0 : (nI N).toInt = (N : Int) := nI_toInt (by omega); have t_n1 : (nI B).toInt = (B : Int) := nI_toInt (by omega); have t_n2 : (nI D).toInt = (D : Int) := nI_toInt (by omega); have t_n3 : (nI S).toInt = (S : Int) := nI_toInt (by omega); have t_n4 : (nI j1).toInt = (j1 : Int) := nI_toInt (by omega); have t_n5 : (nI j9).toInt = (j9 : Int) := nI_toInt (by omega); omega) (by decide)) dX8_explore_74 ?_
              refine lv_cgv (y := .ref (ri (j9 + 1))) (rowref (by have t_hj6 := hj6; have t_n8 := n8; have t_hj15 := hj15; have t_n38 := n38; have t_n0 : (nI N).toInt = (N : Int) := nI_toInt (by omega); have t_n1 : (nI B).toInt = (B : Int) := nI_toInt (by omega); have t_n2 : (nI D).toInt = (D : Int) := nI_toInt (by omega); have t_n3 : (nI S).toInt = (S : Int) := nI_toInt (by omega); have t_n4 : (nI j1).toInt = (j1 : Int) := nI_toInt (by omega); have t_n5 : (nI j9).toInt = (j9 : Int) := nI_toInt (by omega); omega) (by decide)) ?_
              refine lv_aload_n hx hb dX8_explore_75 rfl (lv_at hl 3 rfl) ?_
              refine lv_iload_n hx hb dX8_explore_76 rfl (lv_at hl 0 rfl) ?_
              have hPc := hP.sub (ws' := (([(mk, .inr (3, [.int (nI S), .ref m1, .ref m2])), (m1, .inl (G 0, 6, .inl z1)), (m2, .inl (G 0, 6, .inl z2))] : va_W) ++ ((((List.range 11).map (fun iq => (ri iq, .inl (G 0, 10, .inl (u44 iq))))) : va_W) ++ ((((List.range 11).map (fun iq => (ro iq, .inl (G 0, 10, .inl (u45 iq))))) : va_W) ++ [])))) [7, 8, 9, 13, 14, 15, 16, 17, 18, 19, 20, 21, 22, 23, 24, 25, 26, 27, 28, 29, 30, 31, 32, 33, 34] rfl
              have hDc := hD.sub (ws' := (([(mk, .inr (3, [.int (nI S), .ref m1, .ref m2])), (m1, .inl (G 0, 6, .inl z1)), (m2, .inl (G 0, 6, .inl z2))] : va_W) ++ ((((List.range 11).map (fun iq => (ri iq, .inl (G 0, 10, .inl (u44 iq))))) : va_W) ++ ((((List.range 11).map (fun iq => (ro iq, .inl (G 0, 10, .inl (u45 iq))))) : va_W) ++ [])))) [7, 8, 9, 13, 14, 15, 16, 17, 18, 19, 20, 21, 22, 23, 24, 25, 26, 27, 28, 29, 30, 31, 32, 33, 34] (by decide) rfl
              have hFc := va_free (wc := (([(mk, .inr (3, [.int (nI S), .ref m1, .ref m2])), (m1, .inl (G 0, 6, .inl z1)), (m2, .inl (G 0, 6, .inl z2))] : va_W) ++ ((((List.range 11).map (fun iq => (ri iq, .inl (G 0, 10, .inl (u44 iq))))) : va_W) ++ ((((List.range 11).map (fun iq => (ro iq, .inl (G 0, 10, .inl (u45 iq))))) : va_W) ++ [])))) hD hS hA [7, 8, 9, 13, 14, 15, 16, 17, 18, 19, 20, 21, 22, 23, 24, 25, 26, 27, 28, 29, 30, 31, 32, 33, 34] rfl
              refine va_callv (va_runS (As := [.ref (ri (j9 + 1)), .ref mk, .int (nI j9)]) (rest := []) ⟨hx, hb, hml, hown, hg⟩ (c_X8_dropUnmarked1 l dC dI G _ mk m1 m2 S (j9 + 1) (nI j9) z1 z2 ri ro u44 u45 (by have t_hj6 := hj6; have t_n8 := n8; have t_hj15 := hj15; have t_n38 := n38; have t_n0 : (nI N).toInt = (N : Int) := nI_toInt (by omega); have t_n1 : (nI B).toInt = (B : Int) := nI_toInt (by omega); have t_n2 : (nI D).toInt = (D : Int) := nI_toInt (by omega); have t_n3 : (nI S).toInt = (S : Int) := nI_toInt (by omega); have t_n4 : (nI j1).toInt = (j1 : Int) := nI_toInt (by omega); have t_n5 : (nI j9).toInt = (j9 : Int) := nI_toInt (by omega); omega) (by have t_hj6 := hj6; have t_n8 := n8; have t_hj15 := hj15; have t_n38 := n38; have t_n0 : (nI N).toInt = (N : Int) := nI_toInt (by omega); have t_n1 : (nI B).toInt = (B : Int) := nI_toInt (by omega); have t_n2 : (nI D).toInt = (D : Int) := nI_toInt (by omega); have t_n3 : (nI S).toInt = (S : Int) := nI_toInt (by omega); have t_n4 : (nI j1).toInt = (j1 : Int) := nI_toInt (by omega); have t_n5 : (nI j9).toInt = (j9 : Int) := nI_toInt (by omega); omega)) (kwS hg mfX8_dropUnmarked wt_777 ⟨Nat.le_of_ble_eq_true rfl, Nat.le_of_ble_eq_true rfl⟩) (preSW hK hPc hDc) rfl rfl hl.1 rfl (lv_room (Nat.le_of_ble_eq_true rfl)) dX8_explore_77 ⟨Nat.le_of_ble_eq_true rfl, Nat.le_of_ble_eq_true rfl⟩) hS (fun q _ h => hFc q h) hFc (fun ur46 t H1 locs ht hvm w47 hB hz1 hk1 hS => ?_)
              obtain ⟨u48, u49⟩ := ur46
              obtain ⟨hP1, hD1⟩ := hB
              rw [ht] at hP1
              obtain ⟨hP, hD⟩ := va_join (wr := [(wy, .inr (9, [.int (nI N), .int (nI B), .int (nI D), .ref a1, .ref a2, .ref a3, .ref a4, .ref a5, .ref a6])), (a1, .inl (G 0, 10, .inl f1)), (a2, .inl (G 0, 10, .inl f2)), (a3, .inl (G 0, 10, .inl f3)), (a4, .inl (G 0, 6, .inl f4)), (a5, .inl (G 0, 6, .inl f5)), (a6, .inl (G 0, 6, .inl f6)), (h0, .inr (8, [.int u43, .ref ti, .ref to])), (ti, .inl (G 4, 11, .inr (.inr (.inr (.inr (fun ir => if ir < 11 then some (ri ir) else none)))))), (to, .inl (G 4, 11, .inr (.inr (.inr (.inr (fun ir => if ir < 11 then some (ro ir) else none))))))]) (w1 := (([(mk, .inr (3, [.int (nI S), .ref m1, .ref m2])), (m1, .inl (G 0, 6, .inl z1)), (m2, .inl (G 0, 6, .inl z2))] : va_W) ++ ((((List.range 11).map (fun iq => (ri iq, .inl (G 0, 10, .inl (u48 iq))))) : va_W) ++ ((((List.range 11).map (fun iq => (ro iq, .inl (G 0, 10, .inl (u49 iq))))) : va_W) ++ [])))) hP hD [7, 8, 9, 13, 14, 15, 16, 17, 18, 19, 20, 21, 22, 23, 24, 25, 26, 27, 28, 29, 30, 31, 32, 33, 34] [0, 1, 2, 3, 4, 5, 6, 10, 11, 12] rfl rfl (by decide) (by decide) hk1 hFc hP1 hD1
              generalize H1 = H at hP hS ⊢
              have hP : va_P (dC, dI) vwCl (([(wy, .inr (9, [.int (nI N), .int (nI B), .int (nI D), .ref a1, .ref a2, .ref a3, .ref a4, .ref a5, .ref a6])), (a1, .inl (G 0, 10, .inl f1)), (a2, .inl (G 0, 10, .inl f2)), (a3, .inl (G 0, 10, .inl f3)), (a4, .inl (G 0, 6, .inl f4)), (a5, .inl (G 0, 6, .inl f5)), (a6, .inl (G 0, 6, .inl f6)), (h0, .inr (8, [.int u43, .ref ti, .ref to])), (ti, .inl (G 4, 11, .inr (.inr (.inr (.inr (fun ir => if ir < 11 then some (ri ir) else none)))))), (to, .inl (G 4, 11, .inr (.inr (.inr (.inr (fun ir => if ir < 11 then some (ro ir) else none)))))), (mk, .inr (3, [.int (nI S), .ref m1, .ref m2])), (m1, .inl (G 0, 6, .inl z1)), (m2, .inl (G 0, 6, .inl z2))] : va_W) ++ ((((List.range 11).map (fun iq => (ri iq, .inl (G 0, 10, .inl (u48 iq))))) : va_W) ++ ((((List.range 11).map (fun iq => (ro iq, .inl (G 0, 10, .inl (u49 iq))))) : va_W) ++ []))) H := hP
              have hD : va_D A (([(wy, .inr (9, [.int (nI N), .int (nI B), .int (nI D), .ref a1, .ref a2, .ref a3, .ref a4, .ref a5, .ref a6])), (a1, .inl (G 0, 10, .inl f1)), (a2, .inl (G 0, 10, .inl f2)), (a3, .inl (G 0, 10, .inl f3)), (a4, .inl (G 0, 6, .inl f4)), (a5, .inl (G 0, 6, .inl f5)), (a6, .inl (G 0, 6, .inl f6)), (h0, .inr (8, [.int u43, .ref ti, .ref to])), (ti, .inl (G 4, 11, .inr (.inr (.inr (.inr (fun ir => if ir < 11 then some (ri ir) else none)))))), (to, .inl (G 4, 11, .inr (.inr (.inr (.inr (fun ir => if ir < 11 then some (ro ir) else none)))))), (mk, .inr (3, [.int (nI S), .ref m1, .ref m2])), (m1, .inl (G 0, 6, .inl z1)), (m2, .inl (G 0, 6, .inl z2))] : va_W) ++ ((((List.range 11).map (fun iq => (ri iq, .inl (G 0, 10, .inl (u48 iq))))) : va_W) ++ ((((List.range 11).map (fun iq => (ro iq, .inl (G 0, 10, .inl (u49 iq))))) : va_W) ++ []))) := hD
              refine lv_iinc (v := nI (j9 + 1)) (lv' := [(3, .int (nI (j9 + 1))), (0, .ref h0), (1, .ref wy), (2, .ref mk)]) hx hb dX8_explore_80 hl (k := 0) rfl (by rw [show Int32.ofInt 1 = nI 1 from by decide]; exact nI_add _ _) (by decide) rfl (fun ls hl => ?_)
              refine lv_goto (tgt := 49) hx hb dX8_explore_83 (by decide) ?_
              exact ih49_13 (j9 + 1) (by omega) (by omega) u43 u48 u49 _ _ (hP.sub [7, 8, 9, 0, 1, 2, 3, 4, 5, 6, 10, 11, 12, 13, 14, 15, 16, 17, 18, 19, 20, 21, 22, 23, 24, 25, 26, 27, 28, 29, 30, 31, 32, 33, 34] rfl) (hD.sub [7, 8, 9, 0, 1, 2, 3, 4, 5, 6, 10, 11, 12, 13, 14, 15, 16, 17, 18, 19, 20, 21, 22, 23, 24, 25, 26, 27, 28, 29, 30, 31, 32, 33, 34] (by decide) rfl) hS ls (lv_sub hl [0, 1, 2, 3] rfl)
        exact loop49_13 (N + 1) 0 (by omega) (by omega) tt g2 g3 _ _ hP hD hS ls (lv_sub hl [0, 1, 2, 3] rfl)
      · skip
        have n50 : j1 < 10 := by have t := nleI c7; rw [nI_toInt (n := j1) (by omega)] at t; have : (10 : Int32).toInt = 10 := (by decide); omega
        refine lv_aload_n hx hb dX8_explore_8 rfl (lv_at hl 1 rfl) ?_
        refine va_get (D := (dC, dI)) (ci := 8) (v := .ref ti) (C := RX8) (T := TX8) (N := 3) hx hb hg inG8 hown hK.1 hP 0 rfl rfl 1 (by decide) (hg _ wt_260) (fun _ h9 => h9) rfl dX8_explore_9 ?_
        refine lv_iconst (v := 0) hx hb dX8_explore_12 (by decide) ?_
        refine va_aldA hx hb hK.1 hP 1 4 rfl rfl (vp_in_iff.mpr ⟨by decide, by decide⟩) dX8_explore_13 ?_
        refine lv_cgv (y := .ref (ri 0)) (by rfl) ?_
        refine lv_iload_n hx hb dX8_explore_14 rfl (lv_at hl 0 rfl) ?_
        refine lv_iload_n hx hb dX8_explore_15 rfl (lv_at hl 0 rfl) ?_
        refine lv_aload_n hx hb dX8_explore_16 rfl (lv_at hl 2 rfl) ?_
        refine va_getN (D := (dC, dI)) (ci := 9) (v := .int (nI D)) (C := RX9) (T := TX9) (N := 9) hx hb hg inG9 hown hK.1 hP 3 rfl rfl 2 (by decide) (hK.nest wn_69) (fun _ h9 => h9) rfl dX8_explore_17 ?_
        have cut28_53 : ∀ (k52 : Nat) (H : Heap) (locs : List Loc), k52 ≤ 1 → va_P (dC, dI) vwCl (([(h0, .inr (8, [.int tt, .ref ti, .ref to])), (ti, .inl (G 4, 11, .inr (.inr (.inr (.inr (fun ir => if ir < 11 then some (ri ir) else none)))))), (to, .inl (G 4, 11, .inr (.inr (.inr (.inr (fun ir => if ir < 11 then some (ro ir) else none)))))), (wy, .inr (9, [.int (nI N), .int (nI B), .int (nI D), .ref a1, .ref a2, .ref a3, .ref a4, .ref a5, .ref a6])), (a1, .inl (G 0, 10, .inl f1)), (a2, .inl (G 0, 10, .inl f2)), (a3, .inl (G 0, 10, .inl f3)), (a4, .inl (G 0, 6, .inl f4)), (a5, .inl (G 0, 6, .inl f5)), (a6, .inl (G 0, 6, .inl f6)), (mk, .inr (3, [.int (nI S), .ref m1, .ref m2])), (m1, .inl (G 0, 6, .inl z1)), (m2, .inl (G 0, 6, .inl z2))] : va_W) ++ ((((List.range 11).map (fun iq => (ri iq, .inl (G 0, 10, .inl (g2 iq))))) : va_W) ++ ((((List.range 11).map (fun iq => (ro iq, .inl (G 0, 10, .inl (g3 iq))))) : va_W) ++ []))) H → va_D A (([(h0, .inr (8, [.int tt, .ref ti, .ref to])), (ti, .inl (G 4, 11, .inr (.inr (.inr (.inr (fun ir => if ir < 11 then some (ri ir) else none)))))), (to, .inl (G 4, 11, .inr (.inr (.inr (.inr (fun ir => if ir < 11 then some (ro ir) else none)))))), (wy, .inr (9, [.int (nI N), .int (nI B), .int (nI D), .ref a1, .ref a2, .ref a3, .ref a4, .ref a5, .ref a6])), (a1, .inl (G 0, 10, .inl f1)), (a2, .inl (G 0, 10, .inl f2)), (a3, .inl (G 0, 10, .inl f3)), (a4, .inl (G 0, 6, .inl f4)), (a5, .inl (G 0, 6, .inl f5)), (a6, .inl (G 0, 6, .inl f6)), (mk, .inr (3, [.int (nI S), .ref m1, .ref m2])), (m1, .inl (G 0, 6, .inl z1)), (m2, .inl (G 0, 6, .inl z2))] : va_W) ++ ((((List.range 11).map (fun iq => (ri iq, .inl (G 0, 10, .inl (g2 iq))))) : va_W) ++ ((((List.range 11).map (fun iq => (ro iq, .inl (G 0, 10, .inl (g3 iq))))) : va_W) ++ []))) → va_S A s.heap H locs → ∀ (ls : Array Slot), lv_has ls 4 [(3, .int (nI j1)), (0, .ref h0), (1, .ref wy), (2, .ref mk)] → W p l e (headSpec (Cond.code yX8_explore cX8_explore 4 none :: GT) ({ frames := 4, cells := 0, slots := 0, locals := 88 } : Room)).room s m ([.ref h0, .ref wy, .ref mk] : List Value).toArray below meth c H locs 0 0 (MQ below (va_Qv (fun (u : Int32 × (Nat → Nat → Int32) × (Nat → Nat → Int32)) => match u with | (u0, u1, u2) => True) (fun (u : Int32 × (Nat → Nat → Int32) × (Nat → Nat → Int32)) (t : State) => match u with | (u0, u1, u2) => va_P (dC, dI) vwCl (([(h0, .inr (8, [.int u0, .ref ti, .ref to])), (ti, .inl (G 4, 11, .inr (.inr (.inr (.inr (fun ir => if ir < 11 then some (ri ir) else none)))))), (to, .inl (G 4, 11, .inr (.inr (.inr (.inr (fun ir => if ir < 11 then some (ro ir) else none)))))), (wy, .inr (9, [.int (nI N), .int (nI B), .int (nI D), .ref a1, .ref a2, .ref a3, .ref a4, .ref a5, .ref a6])), (a1, .inl (G 0, 10, .inl f1)), (a2, .inl (G 0, 10, .inl f2)), (a3, .inl (G 0, 10, .inl f3)), (a4, .inl (G 0, 6, .inl f4)), (a5, .inl (G 0, 6, .inl f5)), (a6, .inl (G 0, 6, .inl f6)), (mk, .inr (3, [.int (nI S), .ref m1, .ref m2])), (m1, .inl (G 0, 6, .inl z1)), (m2, .inl (G 0, 6, .inl z2))] : va_W) ++ ((((List.range 11).map (fun iq => (ri iq, .inl (G 0, 10, .inl (u1 iq))))) : va_W) ++ ((((List.range 11).map (fun iq => (ro iq, .inl (G 0, 10, .inl (u2 iq))))) : va_W) ++ []))) t.heap ∧ va_D A (([(h0, .inr (8, [.int u0, .ref ti, .ref to])), (ti, .inl (G 4, 11, .inr (.inr (.inr (.inr (fun ir => if ir < 11 then some (ri ir) else none)))))), (to, .inl (G 4, 11, .inr (.inr (.inr (.inr (fun ir => if ir < 11 then some (ro ir) else none)))))), (wy, .inr (9, [.int (nI N), .int (nI B), .int (nI D), .ref a1, .ref a2, .ref a3, .ref a4, .ref a5, .ref a6])), (a1, .inl (G 0, 10, .inl f1)), (a2, .inl (G 0, 10, .inl f2)), (a3, .inl (G 0, 10, .inl f3)), (a4, .inl (G 0, 6, .inl f4)), (a5, .inl (G 0, 6, .inl f5)), (a6, .inl (G 0, 6, .inl f6)), (mk, .inr (3, [.int (nI S), .ref m1, .ref m2])), (m1, .inl (G 0, 6, .inl z1)), (m2, .inl (G 0, 6, .inl z2))] : va_W) ++ ((((List.range 11).map (fun iq => (ri iq, .inl (G 0, 10, .inl (u1 iq))))) : va_W) ++ ((((List.range 11).map (fun iq => (ro iq, .inl (G 0, 10, .inl (u2 iq))))) : va_W) ++ [])))) A) ([.ref h0, .ref wy, .ref mk] : List Value).toArray s 0 0 A) (F0 m 28 ls [.int (nI k52), .int (nI j1), .ref (ri 0)]) := by
          intro k52 H locs hb_k52 hP hD hS ls hl
          refine va_iastB (j := 0) hx hb hK.1 hP hD hS 0 (by have t_hj6 := hj6; have t_n50 := n50; have t_hb_k52 := hb_k52; have t_n0 : (nI N).toInt = (N : Int) := nI_toInt (by omega); have t_n1 : (nI B).toInt = (B : Int) := nI_toInt (by omega); have t_n2 : (nI D).toInt = (D : Int) := nI_toInt (by omega); have t_n3 : (nI S).toInt = (S : Int) := nI_toInt (by omega); have t_n4 : (nI j1).toInt = (j1 : Int) := nI_toInt (by omega); have t_n5 : (nI k52).toInt = (k52 : Int) := nI_toInt (by omega); omega) rfl (vp_in_nI (by have t_hj6 := hj6; have t_n50 := n50; have t_hb_k52 := hb_k52; have t_n0 : (nI N).toInt = (N : Int) := nI_toInt (by omega); have t_n1 : (nI B).toInt = (B : Int) := nI_toInt (by omega); have t_n2 : (nI D).toInt = (D : Int) := nI_toInt (by omega); have t_n3 : (nI S).toInt = (S : Int) := nI_toInt (by omega); have t_n4 : (nI j1).toInt = (j1 : Int) := nI_toInt (by omega); have t_n5 : (nI k52).toInt = (k52 : Int) := nI_toInt (by omega); omega) (by decide)) dX8_explore_28 (fun H locs hP hD hS => ?_)
          rw [nI_clamp (by have t_hj6 := hj6; have t_n50 := n50; have t_hb_k52 := hb_k52; have t_n0 : (nI N).toInt = (N : Int) := nI_toInt (by omega); have t_n1 : (nI B).toInt = (B : Int) := nI_toInt (by omega); have t_n2 : (nI D).toInt = (D : Int) := nI_toInt (by omega); have t_n3 : (nI S).toInt = (S : Int) := nI_toInt (by omega); have t_n4 : (nI j1).toInt = (j1 : Int) := nI_toInt (by omega); have t_n5 : (nI k52).toInt = (k52 : Int) := nI_toInt (by omega); omega)] at hP hD
          have hP : va_P (dC, dI) vwCl (([(h0, .inr (8, [.int tt, .ref ti, .ref to])), (ti, .inl (G 4, 11, .inr (.inr (.inr (.inr (fun ir => if ir < 11 then some (ri ir) else none)))))), (to, .inl (G 4, 11, .inr (.inr (.inr (.inr (fun ir => if ir < 11 then some (ro ir) else none)))))), (wy, .inr (9, [.int (nI N), .int (nI B), .int (nI D), .ref a1, .ref a2, .ref a3, .ref a4, .ref a5, .ref a6])), (a1, .inl (G 0, 10, .inl f1)), (a2, .inl (G 0, 10, .inl f2)), (a3, .inl (G 0, 10, .inl f3)), (a4, .inl (G 0, 6, .inl f4)), (a5, .inl (G 0, 6, .inl f5)), (a6, .inl (G 0, 6, .inl f6)), (mk, .inr (3, [.int (nI S), .ref m1, .ref m2])), (m1, .inl (G 0, 6, .inl z1)), (m2, .inl (G 0, 6, .inl z2))] : va_W) ++ ((((List.range 11).map (fun iq => (ri iq, .inl (G 0, 10, .inl ((va_up g2 0 (upd (g2 0) j1 (nI k52))) iq))))) : va_W) ++ ((((List.range 11).map (fun iq => (ro iq, .inl (G 0, 10, .inl (g3 iq))))) : va_W) ++ []))) H := hP
          have hD : va_D A (([(h0, .inr (8, [.int tt, .ref ti, .ref to])), (ti, .inl (G 4, 11, .inr (.inr (.inr (.inr (fun ir => if ir < 11 then some (ri ir) else none)))))), (to, .inl (G 4, 11, .inr (.inr (.inr (.inr (fun ir => if ir < 11 then some (ro ir) else none)))))), (wy, .inr (9, [.int (nI N), .int (nI B), .int (nI D), .ref a1, .ref a2, .ref a3, .ref a4, .ref a5, .ref a6])), (a1, .inl (G 0, 10, .inl f1)), (a2, .inl (G 0, 10, .inl f2)), (a3, .inl (G 0, 10, .inl f3)), (a4, .inl (G 0, 6, .inl f4)), (a5, .inl (G 0, 6, .inl f5)), (a6, .inl (G 0, 6, .inl f6)), (mk, .inr (3, [.int (nI S), .ref m1, .ref m2])), (m1, .inl (G 0, 6, .inl z1)), (m2, .inl (G 0, 6, .inl z2))] : va_W) ++ ((((List.range 11).map (fun iq => (ri iq, .inl (G 0, 10, .inl ((va_up g2 0 (upd (g2 0) j1 (nI k52))) iq))))) : va_W) ++ ((((List.range 11).map (fun iq => (ro iq, .inl (G 0, 10, .inl (g3 iq))))) : va_W) ++ []))) := hD
          refine lv_aload_n hx hb dX8_explore_29 rfl (lv_at hl 1 rfl) ?_
          refine va_get (D := (dC, dI)) (ci := 8) (v := .ref to) (C := RX8) (T := TX8) (N := 3) hx hb hg inG8 hown hK.1 hP 0 rfl rfl 2 (by decide) (hg _ wt_261) (fun _ h9 => h9) rfl dX8_explore_30 ?_
          refine lv_aload_n hx hb dX8_explore_33 rfl (lv_at hl 2 rfl) ?_
          refine va_getN (D := (dC, dI)) (ci := 9) (v := .int (nI N)) (C := RX9) (T := TX9) (N := 9) hx hb hg inG9 hown hK.1 hP 3 rfl rfl 0 (by decide) (hK.nest wn_58) (fun _ h9 => h9) rfl dX8_explore_34 ?_
          refine va_aldA hx hb hK.1 hP 2 4 rfl rfl (vp_in_nI (by have t_hj6 := hj6; have t_n50 := n50; have t_hb_k52 := hb_k52; have t_n0 : (nI N).toInt = (N : Int) := nI_toInt (by omega); have t_n1 : (nI B).toInt = (B : Int) := nI_toInt (by omega); have t_n2 : (nI D).toInt = (D : Int) := nI_toInt (by omega); have t_n3 : (nI S).toInt = (S : Int) := nI_toInt (by omega); have t_n4 : (nI j1).toInt = (j1 : Int) := nI_toInt (by omega); have t_n5 : (nI k52).toInt = (k52 : Int) := nI_toInt (by omega); omega) (by decide)) dX8_explore_37 ?_
          refine lv_cgv (y := .ref (ro N)) (rowref (by have t_hj6 := hj6; have t_n50 := n50; have t_hb_k52 := hb_k52; have t_n0 : (nI N).toInt = (N : Int) := nI_toInt (by omega); have t_n1 : (nI B).toInt = (B : Int) := nI_toInt (by omega); have t_n2 : (nI D).toInt = (D : Int) := nI_toInt (by omega); have t_n3 : (nI S).toInt = (S : Int) := nI_toInt (by omega); have t_n4 : (nI j1).toInt = (j1 : Int) := nI_toInt (by omega); have t_n5 : (nI k52).toInt = (k52 : Int) := nI_toInt (by omega); omega) (by decide)) ?_
          refine lv_iload_n hx hb dX8_explore_38 rfl (lv_at hl 0 rfl) ?_
          refine lv_iconst (v := 1) hx hb dX8_explore_39 (by decide) ?_
          refine va_iastB2 (j := N) hx hb hK.1 hP hD hS 0 (by have t_hj6 := hj6; have t_n50 := n50; have t_hb_k52 := hb_k52; have t_n0 : (nI N).toInt = (N : Int) := nI_toInt (by omega); have t_n1 : (nI B).toInt = (B : Int) := nI_toInt (by omega); have t_n2 : (nI D).toInt = (D : Int) := nI_toInt (by omega); have t_n3 : (nI S).toInt = (S : Int) := nI_toInt (by omega); have t_n4 : (nI j1).toInt = (j1 : Int) := nI_toInt (by omega); have t_n5 : (nI k52).toInt = (k52 : Int) := nI_toInt (by omega); omega) rfl (vp_in_nI (by have t_hj6 := hj6; have t_n50 := n50; have t_hb_k52 := hb_k52; have t_n0 : (nI N).toInt = (N : Int) := nI_toInt (by omega); have t_n1 : (nI B).toInt = (B : Int) := nI_toInt (by omega); have t_n2 : (nI D).toInt = (D : Int) := nI_toInt (by omega); have t_n3 : (nI S).toInt = (S : Int) := nI_toInt (by omega); have t_n4 : (nI j1).toInt = (j1 : Int) := nI_toInt (by omega); have t_n5 : (nI k52).toInt = (k52 : Int) := nI_toInt (by omega); omega) (by decide)) dX8_explore_40 (fun H locs hP hD hS => ?_)
          rw [nI_clamp (by have t_hj6 := hj6; have t_n50 := n50; have t_hb_k52 := hb_k52; have t_n0 : (nI N).toInt = (N : Int) := nI_toInt (by omega); have t_n1 : (nI B).toInt = (B : Int) := nI_toInt (by omega); have t_n2 : (nI D).toInt = (D : Int) := nI_toInt (by omega); have t_n3 : (nI S).toInt = (S : Int) := nI_toInt (by omega); have t_n4 : (nI j1).toInt = (j1 : Int) := nI_toInt (by omega); have t_n5 : (nI k52).toInt = (k52 : Int) := nI_toInt (by omega); omega)] at hP hD
          have hP : va_P (dC, dI) vwCl (([(h0, .inr (8, [.int tt, .ref ti, .ref to])), (ti, .inl (G 4, 11, .inr (.inr (.inr (.inr (fun ir => if ir < 11 then some (ri ir) else none)))))), (to, .inl (G 4, 11, .inr (.inr (.inr (.inr (fun ir => if ir < 11 then some (ro ir) else none)))))), (wy, .inr (9, [.int (nI N), .int (nI B), .int (nI D), .ref a1, .ref a2, .ref a3, .ref a4, .ref a5, .ref a6])), (a1, .inl (G 0, 10, .inl f1)), (a2, .inl (G 0, 10, .inl f2)), (a3, .inl (G 0, 10, .inl f3)), (a4, .inl (G 0, 6, .inl f4)), (a5, .inl (G 0, 6, .inl f5)), (a6, .inl (G 0, 6, .inl f6)), (mk, .inr (3, [.int (nI S), .ref m1, .ref m2])), (m1, .inl (G 0, 6, .inl z1)), (m2, .inl (G 0, 6, .inl z2))] : va_W) ++ ((((List.range 11).map (fun iq => (ri iq, .inl (G 0, 10, .inl ((va_up g2 0 (upd (g2 0) j1 (nI k52))) iq))))) : va_W) ++ ((((List.range 11).map (fun iq => (ro iq, .inl (G 0, 10, .inl ((va_up g3 N (upd (g3 N) j1 1)) iq))))) : va_W) ++ []))) H := hP
          have hD : va_D A (([(h0, .inr (8, [.int tt, .ref ti, .ref to])), (ti, .inl (G 4, 11, .inr (.inr (.inr (.inr (fun ir => if ir < 11 then some (ri ir) else none)))))), (to, .inl (G 4, 11, .inr (.inr (.inr (.inr (fun ir => if ir < 11 then some (ro ir) else none)))))), (wy, .inr (9, [.int (nI N), .int (nI B), .int (nI D), .ref a1, .ref a2, .ref a3, .ref a4, .ref a5, .ref a6])), (a1, .inl (G 0, 10, .inl f1)), (a2, .inl (G 0, 10, .inl f2)), (a3, .inl (G 0, 10, .inl f3)), (a4, .inl (G 0, 6, .inl f4)), (a5, .inl (G 0, 6, .inl f5)), (a6, .inl (G 0, 6, .inl f6)), (mk, .inr (3, [.int (nI S), .ref m1, .ref m2])), (m1, .inl (G 0, 6, .inl z1)), (m2, .inl (G 0, 6, .inl z2))] : va_W) ++ ((((List.range 11).map (fun iq => (ri iq, .inl (G 0, 10, .inl ((va_up g2 0 (upd (g2 0) j1 (nI k52))) iq))))) : va_W) ++ ((((List.range 11).map (fun iq => (ro iq, .inl (G 0, 10, .inl ((va_up g3 N (upd (g3 N) j1 1)) iq))))) : va_W) ++ []))) := hD
          refine lv_iinc (v := nI (j1 + 1)) (lv' := [(3, .int (nI (j1 + 1))), (0, .ref h0), (1, .ref wy), (2, .ref mk)]) hx hb dX8_explore_41 hl (k := 0) rfl (by rw [show Int32.ofInt 1 = nI 1 from by decide]; exact nI_add _ _) (by decide) rfl (fun ls hl => ?_)
          refine lv_goto (tgt := 2) hx hb dX8_explore_44 (by decide) ?_
          exact ih2_4 (j1 + 1) (by omega) (by omega) (va_up g2 0 (upd (g2 0) j1 (nI k52))) (va_up g3 N (upd (g3 N) j1 1)) _ _ hP hD hS ls (lv_sub hl [0, 1, 2, 3] rfl)
        refine lv_icmp_ne (tgt := 27) hx hb dX8_explore_20 (by decide) (fun c54 => ?_) (fun c54 => ?_)
        · skip
          have n55 : j1 ≠ D := by have t := neI c54; rw [nI_toInt (n := j1) (by omega)] at t; rw [nI_toInt (n := D) (by omega)] at t; omega
          refine lv_iconst (v := 0) hx hb dX8_explore_27 (by decide) ?_
          exact cut28_53 0 _ _ (by omega) hP hD hS ls (lv_sub hl [0, 1, 2, 3] rfl)
        · skip
          have n56 : j1 = D := by have t := eqI c54; rw [nI_toInt (n := j1) (by omega)] at t; rw [nI_toInt (n := D) (by omega)] at t; omega
          refine lv_iconst (v := 1) hx hb dX8_explore_23 (by decide) ?_
          refine lv_goto (tgt := 28) hx hb dX8_explore_24 (by decide) ?_
          exact cut28_53 1 _ _ (by omega) hP hD hS ls (lv_sub hl [0, 1, 2, 3] rfl)
  exact loop2_4 (10 + 1) 0 (by omega) (by omega) F E _ _ hP hD hS ls (lv_sub hl [0, 1, 2, 3] rfl)

set_option maxHeartbeats 1000000 in
set_option maxRecDepth 100000 in
theorem c_X8_canBeBehind (l : Launch) (dC : Nat → ClassId) (dI : Nat → Nat → Nat) (G : Nat → ClassId) (sz : Nat) (h0 ti to i : Nat) (d tt : Int32) (ri ro : Nat → Nat) (F E : Nat → Nat → Int32) (hi : i < 10) (hd0 : 0 ≤ d.toInt ∧ d.toInt ≤ 9) : Met l yX8_canBeBehind (Cond.code yX8_canBeBehind cX8_canBeBehind 3 (some .boolean) :: GT) ({ frames := 0, cells := 0, slots := 0, locals := 0 } : Room) (PcR [.ref h0, .int (nI i), .int d] dC dI G (([(h0, .inr (8, [.int tt, .ref ti, .ref to])), (ti, .inl (G 4, 11, .inr (.inr (.inr (.inr (fun ir => if ir < 11 then some (ri ir) else none)))))), (to, .inl (G 4, 11, .inr (.inr (.inr (.inr (fun ir => if ir < 11 then some (ro ir) else none))))))] : va_W) ++ ((((List.range 11).map (fun iq => (ri iq, .inl (G 0, 10, .inl (F iq))))) : va_W) ++ ((((List.range 11).map (fun iq => (ro iq, .inl (G 0, 10, .inl (E iq))))) : va_W) ++ []))) sz) (va_Qi (fun (r : Int32) (u : Unit) => match u with | _ => (r = 0 ∨ r = 1) ∧ True) (fun _ _ => True) (fun q : Nat => sz ≤ q)) 0 0 (fun q : Nat => sz ≤ q) := by
  refine Met.ofW (cc := cX8_canBeBehind) (maxL := 3) (ret := (some .boolean)) (by decide) rfl ?_
  intro p e s m args below meth c s₁ Bd hml hv
  obtain ⟨rfl, hsz, hP, hK⟩ := hv
  have hx := Bd.exec
  have hb := Bd.bytes
  have hr := Bd.returns
  have hg : ∀ w ∈ GT, w.before ([.ref h0, .int (nI i), .int d] : List Value).toArray s = true := fun w h => atoms_spec (ws := Cond.code yX8_canBeBehind cX8_canBeBehind 3 (some .boolean) :: GT) Bd.pre w (List.mem_cons_of_mem _ h)
  have hown : s.vm.findClass RX8 = some m.cls := findClass_of_methodNamed Bd.named
  have hlocks := Bd.notSynchronized
  subst hsz
  have hA : ∀ q : Nat, s.heap.size ≤ q → (fun q : Nat => s.heap.size ≤ q) q := fun _ h => h
  have hS : va_S (fun q : Nat => s.heap.size ≤ q) s.heap s.heap [] := va_S.rf
  have hl := lv_entry ([.ref h0, .int (nI i), .int d]) (n := 3) (Nat.le_of_ble_eq_true rfl)
  rw [lg_entry_eq]
  generalize (lg_sl ([.ref h0, .int (nI i), .int d]) ++ List.replicate (3 - (lg_sl ([.ref h0, .int (nI i), .int d])).length) Slot.unset).toArray = ls at hl ⊢
  have hl : lv_has ls 3 [(0, .ref h0), (1, .int (nI i)), (2, .int d)] := hl
  refine lv_aload_n hx hb dX8_canBeBehind_0 rfl (lv_at hl 0 rfl) ?_
  refine va_get (D := (dC, dI)) (ci := 8) (v := .ref ti) (C := RX8) (T := TX8) (N := 3) hx hb hg inG8 hown hK.1 hP 0 rfl rfl 1 (by decide) (hg _ wt_260) (fun _ h9 => h9) rfl dX8_canBeBehind_1 ?_
  refine lv_iload_n hx hb dX8_canBeBehind_4 rfl (lv_at hl 1 rfl) ?_
  refine lv_iconst (v := 1) hx hb dX8_canBeBehind_5 (by decide) ?_
  refine lv_iadd hx hb dX8_canBeBehind_6 ?_
  refine lv_cg (y := nI (i + 1)) (by rw [show (1 : Int32) = nI 1 from rfl]; exact nI_add _ _) ?_
  refine va_aldA hx hb hK.1 hP 1 4 rfl rfl (vp_in_nI (by have t_n0 : (nI i).toInt = (i : Int) := nI_toInt (by omega); omega) (by decide)) dX8_canBeBehind_7 ?_
  refine lv_cgv (y := .ref (ri (i + 1))) (rowref (by have t_n0 : (nI i).toInt = (i : Int) := nI_toInt (by omega); omega) (by decide)) ?_
  refine lv_iload_n hx hb dX8_canBeBehind_8 rfl (lv_at hl 2 rfl) ?_
  refine va_iald hx hb hK.1 (blk_P (j := (i + 1)) hP (by have t_n0 : (nI i).toInt = (i : Int) := nI_toInt (by omega); omega)) 0 0 rfl rfl (vp_in_iff.mpr (by have t_n0 : (nI i).toInt = (i : Int) := nI_toInt (by omega); constructor <;> omega)) dX8_canBeBehind_9 ?_
  refine lv_if_le (tgt := 30) hx hb dX8_canBeBehind_10 (by decide) (fun c1 => ?_) (fun c1 => ?_)
  · skip
    refine lv_iconst (v := 0) hx hb dX8_canBeBehind_30 (by decide) ?_
    have hpost : (0 : Int32) = 0 ∨ (0 : Int32) = 1 := by
      exact Or.inl rfl
    refine W.widen (k := 0) (n := 0) (by omega) (by omega) ?_
    exact W.zret (v := 0) hx hb hr (by first | rfl | decide | exact rfl) (fun t ht hW => ⟨⟨0, (), rfl, ⟨hpost, trivial⟩, trivial⟩, hS.F ht⟩) hS.2.2 dX8_canBeBehind_31
  · skip
    refine lv_aload_n hx hb dX8_canBeBehind_13 rfl (lv_at hl 0 rfl) ?_
    refine va_get (D := (dC, dI)) (ci := 8) (v := .ref to) (C := RX8) (T := TX8) (N := 3) hx hb hg inG8 hown hK.1 hP 0 rfl rfl 2 (by decide) (hg _ wt_261) (fun _ h9 => h9) rfl dX8_canBeBehind_14 ?_
    refine lv_iload_n hx hb dX8_canBeBehind_17 rfl (lv_at hl 1 rfl) ?_
    refine lv_iconst (v := 1) hx hb dX8_canBeBehind_18 (by decide) ?_
    refine lv_iadd hx hb dX8_canBeBehind_19 ?_
    refine lv_cg (y := nI (i + 1)) (by rw [show (1 : Int32) = nI 1 from rfl]; exact nI_add _ _) ?_
    refine va_aldA hx hb hK.1 hP 2 4 rfl rfl (vp_in_nI (by have t_c1 := nleI c1; have : (0 : Int32).toInt = 0 := (by decide); have t_n0 : (nI i).toInt = (i : Int) := nI_toInt (by omega); omega) (by decide)) dX8_canBeBehind_20 ?_
    refine lv_cgv (y := .ref (ro (i + 1))) (rowref (by have t_c1 := nleI c1; have : (0 : Int32).toInt = 0 := (by decide); have t_n0 : (nI i).toInt = (i : Int) := nI_toInt (by omega); omega) (by decide)) ?_
    refine lv_iload_n hx hb dX8_canBeBehind_21 rfl (lv_at hl 2 rfl) ?_
    refine va_iald hx hb hK.1 (blk_P2 (j := (i + 1)) hP (by have t_c1 := nleI c1; have : (0 : Int32).toInt = 0 := (by decide); have t_n0 : (nI i).toInt = (i : Int) := nI_toInt (by omega); omega)) 0 0 rfl rfl (vp_in_iff.mpr (by have t_c1 := nleI c1; have : (0 : Int32).toInt = 0 := (by decide); have t_n0 : (nI i).toInt = (i : Int) := nI_toInt (by omega); constructor <;> omega)) dX8_canBeBehind_22 ?_
    refine lv_if_le (tgt := 30) hx hb dX8_canBeBehind_23 (by decide) (fun c2 => ?_) (fun c2 => ?_)
    · skip
      refine lv_iconst (v := 0) hx hb dX8_canBeBehind_30 (by decide) ?_
      have hpost : (0 : Int32) = 0 ∨ (0 : Int32) = 1 := by
        exact Or.inl rfl
      refine W.widen (k := 0) (n := 0) (by omega) (by omega) ?_
      exact W.zret (v := 0) hx hb hr (by first | rfl | decide | exact rfl) (fun t ht hW => ⟨⟨0, (), rfl, ⟨hpost, trivial⟩, trivial⟩, hS.F ht⟩) hS.2.2 dX8_canBeBehind_31
    · skip
      refine lv_iconst (v := 1) hx hb dX8_canBeBehind_26 (by decide) ?_
      refine lv_goto (tgt := 31) hx hb dX8_canBeBehind_27 (by decide) ?_
      have hpost : (1 : Int32) = 0 ∨ (1 : Int32) = 1 := by
        exact Or.inr rfl
      refine W.widen (k := 0) (n := 0) (by omega) (by omega) ?_
      exact W.zret (v := 1) hx hb hr (by first | rfl | decide | exact rfl) (fun t ht hW => ⟨⟨1, (), rfl, ⟨hpost, trivial⟩, trivial⟩, hS.F ht⟩) hS.2.2 dX8_canBeBehind_31

set_option maxHeartbeats 1000000 in
set_option maxRecDepth 100000 in
theorem c_X8_falling (l : Launch) (dC : Nat → ClassId) (dI : Nat → Nat → Nat) (G : Nat → ClassId) (sz : Nat) (h0 ti to wy a1 a2 a3 a4 a5 a6 N B D i : Nat) (tt : Int32) (f1 f2 f3 f4 f5 f6 : Nat → Int32) (ri ro : Nat → Nat) (F E : Nat → Nat → Int32) (hN_N : N ≤ 10) (hB_B : B ≤ 6) (hD_D : 1 ≤ D ∧ D ≤ 9) (hi : i < 10) : Met l yX8_falling (Cond.code yX8_falling cX8_falling 5 (some .int) :: GT) ({ frames := 4, cells := 0, slots := 0, locals := 88 } : Room) (PcR [.ref h0, .ref wy, .int (nI i)] dC dI G (([(h0, .inr (8, [.int tt, .ref ti, .ref to])), (ti, .inl (G 4, 11, .inr (.inr (.inr (.inr (fun ir => if ir < 11 then some (ri ir) else none)))))), (to, .inl (G 4, 11, .inr (.inr (.inr (.inr (fun ir => if ir < 11 then some (ro ir) else none)))))), (wy, .inr (9, [.int (nI N), .int (nI B), .int (nI D), .ref a1, .ref a2, .ref a3, .ref a4, .ref a5, .ref a6])), (a1, .inl (G 0, 10, .inl f1)), (a2, .inl (G 0, 10, .inl f2)), (a3, .inl (G 0, 10, .inl f3)), (a4, .inl (G 0, 6, .inl f4)), (a5, .inl (G 0, 6, .inl f5)), (a6, .inl (G 0, 6, .inl f6))] : va_W) ++ ((((List.range 11).map (fun iq => (ri iq, .inl (G 0, 10, .inl (F iq))))) : va_W) ++ ((((List.range 11).map (fun iq => (ro iq, .inl (G 0, 10, .inl (E iq))))) : va_W) ++ []))) sz) (va_Qi (fun (r : Int32) (u : Unit) => match u with | _ => (True) ∧ True) (fun _ _ => True) (fun q : Nat => sz ≤ q)) 0 0 (fun q : Nat => sz ≤ q) := by
  refine Met.ofW (cc := cX8_falling) (maxL := 5) (ret := (some .int)) (by decide) rfl ?_
  intro p e s m args below meth c s₁ Bd hml hv
  obtain ⟨rfl, hsz, hP, hK⟩ := hv
  have hx := Bd.exec
  have hb := Bd.bytes
  have hr := Bd.returns
  have hg : ∀ w ∈ GT, w.before ([.ref h0, .ref wy, .int (nI i)] : List Value).toArray s = true := fun w h => atoms_spec (ws := Cond.code yX8_falling cX8_falling 5 (some .int) :: GT) Bd.pre w (List.mem_cons_of_mem _ h)
  have hown : s.vm.findClass RX8 = some m.cls := findClass_of_methodNamed Bd.named
  have hlocks := Bd.notSynchronized
  subst hsz
  have hA : ∀ q : Nat, s.heap.size ≤ q → (fun q : Nat => s.heap.size ≤ q) q := fun _ h => h
  have hS : va_S (fun q : Nat => s.heap.size ≤ q) s.heap s.heap [] := va_S.rf
  have hl := lv_entry ([.ref h0, .ref wy, .int (nI i)]) (n := 5) (Nat.le_of_ble_eq_true rfl)
  rw [lg_entry_eq]
  generalize (lg_sl ([.ref h0, .ref wy, .int (nI i)]) ++ List.replicate (5 - (lg_sl ([.ref h0, .ref wy, .int (nI i)])).length) Slot.unset).toArray = ls at hl ⊢
  have hl : lv_has ls 5 [(0, .ref h0), (1, .ref wy), (2, .int (nI i))] := hl
  refine lv_aload_n hx hb dX8_falling_0 rfl (lv_at hl 1 rfl) ?_
  refine lv_iload_n hx hb dX8_falling_1 rfl (lv_at hl 2 rfl) ?_
  have hPc := hP.sub (ws' := [(wy, .inr (9, [.int (nI N), .int (nI B), .int (nI D), .ref a1, .ref a2, .ref a3, .ref a4, .ref a5, .ref a6])), (a1, .inl (G 0, 10, .inl f1)), (a2, .inl (G 0, 10, .inl f2)), (a3, .inl (G 0, 10, .inl f3)), (a4, .inl (G 0, 6, .inl f4)), (a5, .inl (G 0, 6, .inl f5)), (a6, .inl (G 0, 6, .inl f6))]) [3, 4, 5, 6, 7, 8, 9] rfl
  refine va_calli (va_runVN (As := [.int (nI i)]) (rest := []) ⟨hx, hb, hml, hown, hg⟩ (c_X9_harmInOrder l dC dI G _ wy a1 a2 a3 a4 a5 a6 N B D (nI i) f1 f2 f3 f4 f5 f6 (by have t_n0 : (nI i).toInt = (i : Int) := nI_toInt (by omega); have t_n1 : (nI N).toInt = (N : Int) := nI_toInt (by omega); have t_n2 : (nI B).toInt = (B : Int) := nI_toInt (by omega); have t_n3 : (nI D).toInt = (D : Int) := nI_toInt (by omega); omega) (by have t_n0 : (nI i).toInt = (i : Int) := nI_toInt (by omega); have t_n1 : (nI N).toInt = (N : Int) := nI_toInt (by omega); have t_n2 : (nI B).toInt = (B : Int) := nI_toInt (by omega); have t_n3 : (nI D).toInt = (D : Int) := nI_toInt (by omega); omega) (by have t_n0 : (nI i).toInt = (i : Int) := nI_toInt (by omega); have t_n1 : (nI N).toInt = (N : Int) := nI_toInt (by omega); have t_n2 : (nI B).toInt = (B : Int) := nI_toInt (by omega); have t_n3 : (nI D).toInt = (D : Int) := nI_toInt (by omega); omega)) (kwVN hg hK mfX9_harmInOrder wn_771 ⟨Nat.le_of_ble_eq_true rfl, Nat.le_of_ble_eq_true rfl⟩) (preVR hK hPc (ci := 9) rfl rfl) rfl rfl hl.1 rfl (lv_room (Nat.le_of_ble_eq_true rfl)) dX8_falling_2 ⟨Nat.le_of_ble_eq_true rfl, Nat.le_of_ble_eq_true rfl⟩) hS (fun q h1 h2 => absurd h2 (Nat.not_le.mpr h1)) (fun q h => hA q (Nat.le_trans hS.1 h)) (fun r1 ur1 t H1 locs ht hvm w2 hB hz1 hk1 hS => ?_)
  have hP := keepR hP hk1
  obtain ⟨w2, w2x⟩ := w2
  subst w2
  refine lv_if_ne (tgt := 10) hx hb dX8_falling_5 (by decide) (fun c3 => ?_) (fun c3 => ?_)
  · skip
    refine lv_iconst (v := 0) hx hb dX8_falling_10 (by decide) ?_
    refine lv_istore_n (lv' := [(3, .int 0), (0, .ref h0), (1, .ref wy), (2, .int (nI i))]) hx hb dX8_falling_11 rfl hl (by decide) rfl (fun ls hl => ?_)
    refine lv_iconst (v := 1) hx hb dX8_falling_12 (by decide) ?_
    refine lv_istore (lv' := [(4, .int 1), (3, .int 0), (0, .ref h0), (1, .ref wy), (2, .int (nI i))]) hx hb dX8_falling_13 hl (by decide) rfl (fun ls hl => ?_)
    have loop15_6 : ∀ (nf j4 : Nat), 10 + 1 ≤ j4 + nf → j4 ≤ 10 → 1 ≤ j4 → ∀ (y5 : Int32) (H : Heap) (locs : List Loc), va_P (dC, dI) vwCl (([(h0, .inr (8, [.int tt, .ref ti, .ref to])), (ti, .inl (G 4, 11, .inr (.inr (.inr (.inr (fun ir => if ir < 11 then some (ri ir) else none)))))), (to, .inl (G 4, 11, .inr (.inr (.inr (.inr (fun ir => if ir < 11 then some (ro ir) else none)))))), (wy, .inr (9, [.int (nI N), .int (nI B), .int (nI D), .ref a1, .ref a2, .ref a3, .ref a4, .ref a5, .ref a6])), (a1, .inl (G 0, 10, .inl f1)), (a2, .inl (G 0, 10, .inl f2)), (a3, .inl (G 0, 10, .inl f3)), (a4, .inl (G 0, 6, .inl f4)), (a5, .inl (G 0, 6, .inl f5)), (a6, .inl (G 0, 6, .inl f6))] : va_W) ++ ((((List.range 11).map (fun iq => (ri iq, .inl (G 0, 10, .inl (F iq))))) : va_W) ++ ((((List.range 11).map (fun iq => (ro iq, .inl (G 0, 10, .inl (E iq))))) : va_W) ++ []))) H → va_S (fun q : Nat => s.heap.size ≤ q) s.heap H locs → ∀ (ls : Array Slot), lv_has ls 5 [(4, .int (nI j4)), (3, .int y5), (0, .ref h0), (1, .ref wy), (2, .int (nI i))] → W p l e (headSpec (Cond.code yX8_falling cX8_falling 5 (some .int) :: GT) ({ frames := 4, cells := 0, slots := 0, locals := 88 } : Room)).room s m ([.ref h0, .ref wy, .int (nI i)] : List Value).toArray below meth c H locs 0 0 (MQ below (va_Qi (fun (r : Int32) (u : Unit) => match u with | _ => (True) ∧ True) (fun _ _ => True) (fun q : Nat => s.heap.size ≤ q)) ([.ref h0, .ref wy, .int (nI i)] : List Value).toArray s 0 0 (fun q : Nat => s.heap.size ≤ q)) (F0 m 15 ls []) := by
      intro nf
      induction nf with
      | zero => intro j4 h1 h2; exact absurd h1 (by omega)
      | succ nf ih15_6 =>
        intro j4 hn7 hj8 hlo_j4 y5 H locs hP hS ls hl
        refine lv_iload hx hb dX8_falling_15 (lv_at hl 0 rfl) ?_
        refine lv_bipush (v := 10) hx hb dX8_falling_17 (by decide) ?_
        refine lv_icmp_ge (tgt := 54) hx hb dX8_falling_19 (by decide) (fun c9 => ?_) (fun c9 => ?_)
        · skip
          have n10 : 10 ≤ j4 := by have t := leI c9; rw [nI_toInt (n := j4) (by omega)] at t; have : (10 : Int32).toInt = 10 := (by decide); omega
          refine lv_iload_n hx hb dX8_falling_54 rfl (lv_at hl 1 rfl) ?_
          have hpost : True := by
            trivial
          refine W.widen (k := 0) (n := 0) (by omega) (by omega) ?_
          exact W.iret (v := y5) hx hb hr (fun t ht hW => ⟨⟨y5, (), rfl, ⟨hpost, trivial⟩, trivial⟩, hS.F ht⟩) hS.2.2 dX8_falling_55
        · skip
          have n11 : j4 < 10 := by have t := nleI c9; rw [nI_toInt (n := j4) (by omega)] at t; have : (10 : Int32).toInt = 10 := (by decide); omega
          refine lv_iload_n hx hb dX8_falling_22 rfl (lv_at hl 1 rfl) ?_
          refine lv_aload_n hx hb dX8_falling_23 rfl (lv_at hl 2 rfl) ?_
          refine va_get (D := (dC, dI)) (ci := 8) (v := .ref ti) (C := RX8) (T := TX8) (N := 3) hx hb hg inG8 hown hK.1 hP 0 rfl rfl 1 (by decide) (hg _ wt_260) (fun _ h9 => h9) rfl dX8_falling_24 ?_
          refine lv_iload_n hx hb dX8_falling_27 rfl (lv_at hl 4 rfl) ?_
          refine va_aldA hx hb hK.1 hP 1 4 rfl rfl (vp_in_nI (by have t_c3 := neI c3; have t_hj8 := hj8; have t_hlo_j4 := hlo_j4; have t_n11 := n11; have : (0 : Int32).toInt = 0 := (by decide); have t_n0 : (nI i).toInt = (i : Int) := nI_toInt (by omega); have t_n1 : (nI N).toInt = (N : Int) := nI_toInt (by omega); have t_n2 : (nI B).toInt = (B : Int) := nI_toInt (by omega); have t_n3 : (nI D).toInt = (D : Int) := nI_toInt (by omega); have t_n4 : (nI j4).toInt = (j4 : Int) := nI_toInt (by omega); omega) (by decide)) dX8_falling_28 ?_
          refine lv_cgv (y := .ref (ri i)) (rowref (by have t_c3 := neI c3; have t_hj8 := hj8; have t_hlo_j4 := hlo_j4; have t_n11 := n11; have : (0 : Int32).toInt = 0 := (by decide); have t_n0 : (nI i).toInt = (i : Int) := nI_toInt (by omega); have t_n1 : (nI N).toInt = (N : Int) := nI_toInt (by omega); have t_n2 : (nI B).toInt = (B : Int) := nI_toInt (by omega); have t_n3 : (nI D).toInt = (D : Int) := nI_toInt (by omega); have t_n4 : (nI j4).toInt = (j4 : Int) := nI_toInt (by omega); omega) (by decide)) ?_
          refine lv_iload hx hb dX8_falling_29 (lv_at hl 0 rfl) ?_
          refine va_iald hx hb hK.1 (blk_P (j := i) hP (by have t_c3 := neI c3; have t_hj8 := hj8; have t_hlo_j4 := hlo_j4; have t_n11 := n11; have : (0 : Int32).toInt = 0 := (by decide); have t_n0 : (nI i).toInt = (i : Int) := nI_toInt (by omega); have t_n1 : (nI N).toInt = (N : Int) := nI_toInt (by omega); have t_n2 : (nI B).toInt = (B : Int) := nI_toInt (by omega); have t_n3 : (nI D).toInt = (D : Int) := nI_toInt (by omega); have t_n4 : (nI j4).toInt = (j4 : Int) := nI_toInt (by omega); omega)) 0 0 rfl rfl (vp_in_nI (by have t_c3 := neI c3; have t_hj8 := hj8; have t_hlo_j4 := hlo_j4; have t_n11 := n11; have : (0 : Int32).toInt = 0 := (by decide); have t_n0 : (nI i).toInt = (i : Int) := nI_toInt (by omega); have t_n1 : (nI N).toInt = (N : Int) := nI_toInt (by omega); have t_n2 : (nI B).toInt = (B : Int) := nI_toInt (by omega); have t_n3 : (nI D).toInt = (D : Int) := nI_toInt (by omega); have t_n4 : (nI j4).toInt = (j4 : Int) := nI_toInt (by omega); omega) (by decide)) dX8_falling_31 ?_
          refine lv_cg (y := F i j4) (by rw [nI_clamp (by have t_c3 := neI c3; have t_hj8 := hj8; have t_hlo_j4 := hlo_j4; have t_n11 := n11; have : (0 : Int32).toInt = 0 := (by decide); have t_n0 : (nI i).toInt = (i : Int) := nI_toInt (by omega); have t_n1 : (nI N).toInt = (N : Int) := nI_toInt (by omega); have t_n2 : (nI B).toInt = (B : Int) := nI_toInt (by omega); have t_n3 : (nI D).toInt = (D : Int) := nI_toInt (by omega); have t_n4 : (nI j4).toInt = (j4 : Int) := nI_toInt (by omega); omega)]) ?_
          refine lv_aload_n hx hb dX8_falling_32 rfl (lv_at hl 2 rfl) ?_
          refine va_get (D := (dC, dI)) (ci := 8) (v := .ref to) (C := RX8) (T := TX8) (N := 3) hx hb hg inG8 hown hK.1 hP 0 rfl rfl 2 (by decide) (hg _ wt_261) (fun _ h9 => h9) rfl dX8_falling_33 ?_
          refine lv_iload_n hx hb dX8_falling_36 rfl (lv_at hl 4 rfl) ?_
          refine lv_iconst (v := 1) hx hb dX8_falling_37 (by decide) ?_
          refine lv_iadd hx hb dX8_falling_38 ?_
          refine lv_cg (y := nI (i + 1)) (by rw [show (1 : Int32) = nI 1 from rfl]; exact nI_add _ _) ?_
          refine va_aldA hx hb hK.1 hP 2 4 rfl rfl (vp_in_nI (by have t_c3 := neI c3; have t_hj8 := hj8; have t_hlo_j4 := hlo_j4; have t_n11 := n11; have : (0 : Int32).toInt = 0 := (by decide); have t_n0 : (nI i).toInt = (i : Int) := nI_toInt (by omega); have t_n1 : (nI N).toInt = (N : Int) := nI_toInt (by omega); have t_n2 : (nI B).toInt = (B : Int) := nI_toInt (by omega); have t_n3 : (nI D).toInt = (D : Int) := nI_toInt (by omega); have t_n4 : (nI j4).toInt = (j4 : Int) := nI_toInt (by omega); omega) (by decide)) dX8_falling_39 ?_
          refine lv_cgv (y := .ref (ro (i + 1))) (rowref (by have t_c3 := neI c3; have t_hj8 := hj8; have t_hlo_j4 := hlo_j4; have t_n11 := n11; have : (0 : Int32).toInt = 0 := (by decide); have t_n0 : (nI i).toInt = (i : Int) := nI_toInt (by omega); have t_n1 : (nI N).toInt = (N : Int) := nI_toInt (by omega); have t_n2 : (nI B).toInt = (B : Int) := nI_toInt (by omega); have t_n3 : (nI D).toInt = (D : Int) := nI_toInt (by omega); have t_n4 : (nI j4).toInt = (j4 : Int) := nI_toInt (by omega); omega) (by decide)) ?_
          refine lv_iload hx hb dX8_falling_40 (lv_at hl 0 rfl) ?_
          refine lv_iconst (v := 1) hx hb dX8_falling_42 (by decide) ?_
          refine lv_isub hx hb dX8_falling_43 ?_
          refine lv_cg (y := nI (j4 - 1)) (by rw [show (1 : Int32) = nI 1 from rfl]; exact pk_sub (by have t_c3 := neI c3; have t_hj8 := hj8; have t_hlo_j4 := hlo_j4; have t_n11 := n11; have : (0 : Int32).toInt = 0 := (by decide); have t_n0 : (nI i).toInt = (i : Int) := nI_toInt (by omega); have t_n1 : (nI N).toInt = (N : Int) := nI_toInt (by omega); have t_n2 : (nI B).toInt = (B : Int) := nI_toInt (by omega); have t_n3 : (nI D).toInt = (D : Int) := nI_toInt (by omega); have t_n4 : (nI j4).toInt = (j4 : Int) := nI_toInt (by omega); omega)) ?_
          refine va_iald hx hb hK.1 (blk_P2 (j := (i + 1)) hP (by have t_c3 := neI c3; have t_hj8 := hj8; have t_hlo_j4 := hlo_j4; have t_n11 := n11; have : (0 : Int32).toInt = 0 := (by decide); have t_n0 : (nI i).toInt = (i : Int) := nI_toInt (by omega); have t_n1 : (nI N).toInt = (N : Int) := nI_toInt (by omega); have t_n2 : (nI B).toInt = (B : Int) := nI_toInt (by omega); have t_n3 : (nI D).toInt = (D : Int) := nI_toInt (by omega); have t_n4 : (nI j4).toInt = (j4 : Int) := nI_toInt (by omega); omega)) 0 0 rfl rfl (vp_in_nI (by have t_c3 := neI c3; have t_hj8 := hj8; have t_hlo_j4 := hlo_j4; have t_n11 := n11; have : (0 : Int32).toInt = 0 := (by decide); have t_n0 : (nI i).toInt = (i : Int) := nI_toInt (by omega); have t_n1 : (nI N).toInt = (N : Int) := nI_toInt (by omega); have t_n2 : (nI B).toInt = (B : Int) := nI_toInt (by omega); have t_n3 : (nI D).toInt = (D : Int) := nI_toInt (by omega); have t_n4 : (nI j4).toInt = (j4 : Int) := nI_toInt (by omega); omega) (by decide)) dX8_falling_44 ?_
          refine lv_cg (y := E (i + 1) (j4 - 1)) (by rw [nI_clamp (by have t_c3 := neI c3; have t_hj8 := hj8; have t_hlo_j4 := hlo_j4; have t_n11 := n11; have : (0 : Int32).toInt = 0 := (by decide); have t_n0 : (nI i).toInt = (i : Int) := nI_toInt (by omega); have t_n1 : (nI N).toInt = (N : Int) := nI_toInt (by omega); have t_n2 : (nI B).toInt = (B : Int) := nI_toInt (by omega); have t_n3 : (nI D).toInt = (D : Int) := nI_toInt (by omega); have t_n4 : (nI j4).toInt = (j4 : Int) := nI_toInt (by omega); omega)]) ?_
          refine lv_imul hx hb dX8_falling_45 ?_
          refine lv_topi (fun v12 ev12 => ?_)
          refine lv_iadd hx hb dX8_falling_46 ?_
          refine lv_istore_n (lv' := [(3, .int (y5 + v12)), (4, .int (nI j4)), (0, .ref h0), (1, .ref wy), (2, .int (nI i))]) hx hb dX8_falling_47 rfl hl (by decide) rfl (fun ls hl => ?_)
          refine lv_iinc (v := nI (j4 + 1)) (lv' := [(4, .int (nI (j4 + 1))), (3, .int (y5 + v12)), (0, .ref h0), (1, .ref wy), (2, .int (nI i))]) hx hb dX8_falling_48 hl (k := 1) rfl (by rw [show Int32.ofInt 1 = nI 1 from by decide]; exact nI_add _ _) (by decide) rfl (fun ls hl => ?_)
          refine lv_goto (tgt := 15) hx hb dX8_falling_51 (by decide) ?_
          exact ih15_6 (j4 + 1) (by omega) (by omega) (by omega) (y5 + v12) _ _ hP hS ls (lv_sub hl [0, 1, 2, 3, 4] rfl)
    exact loop15_6 (10 + 1) 1 (by omega) (by omega) (by omega) 0 _ _ hP hS ls (lv_sub hl [0, 1, 2, 3, 4] rfl)
  · skip
    refine lv_iconst (v := 0) hx hb dX8_falling_8 (by decide) ?_
    have hpost : True := by
      trivial
    refine W.widen (k := 0) (n := 0) (by omega) (by omega) ?_
    exact W.iret (v := 0) hx hb hr (fun t ht hW => ⟨⟨0, (), rfl, ⟨hpost, trivial⟩, trivial⟩, hS.F ht⟩) hS.2.2 dX8_falling_9

set_option maxHeartbeats 1000000 in
set_option maxRecDepth 100000 in
theorem c_X8_rising (l : Launch) (dC : Nat → ClassId) (dI : Nat → Nat → Nat) (G : Nat → ClassId) (sz : Nat) (h0 ti to wy a1 a2 a3 a4 a5 a6 N B D i : Nat) (tt : Int32) (f1 f2 f3 f4 f5 f6 : Nat → Int32) (ri ro : Nat → Nat) (F E : Nat → Nat → Int32) (hN_N : N ≤ 10) (hB_B : B ≤ 6) (hD_D : 1 ≤ D ∧ D ≤ 9) (hi : i < 10) : Met l yX8_rising (Cond.code yX8_rising cX8_rising 5 (some .int) :: GT) ({ frames := 4, cells := 0, slots := 0, locals := 88 } : Room) (PcR [.ref h0, .ref wy, .int (nI i)] dC dI G (([(h0, .inr (8, [.int tt, .ref ti, .ref to])), (ti, .inl (G 4, 11, .inr (.inr (.inr (.inr (fun ir => if ir < 11 then some (ri ir) else none)))))), (to, .inl (G 4, 11, .inr (.inr (.inr (.inr (fun ir => if ir < 11 then some (ro ir) else none)))))), (wy, .inr (9, [.int (nI N), .int (nI B), .int (nI D), .ref a1, .ref a2, .ref a3, .ref a4, .ref a5, .ref a6])), (a1, .inl (G 0, 10, .inl f1)), (a2, .inl (G 0, 10, .inl f2)), (a3, .inl (G 0, 10, .inl f3)), (a4, .inl (G 0, 6, .inl f4)), (a5, .inl (G 0, 6, .inl f5)), (a6, .inl (G 0, 6, .inl f6))] : va_W) ++ ((((List.range 11).map (fun iq => (ri iq, .inl (G 0, 10, .inl (F iq))))) : va_W) ++ ((((List.range 11).map (fun iq => (ro iq, .inl (G 0, 10, .inl (E iq))))) : va_W) ++ []))) sz) (va_Qi (fun (r : Int32) (u : Unit) => match u with | _ => (True) ∧ True) (fun _ _ => True) (fun q : Nat => sz ≤ q)) 0 0 (fun q : Nat => sz ≤ q) := by
  refine Met.ofW (cc := cX8_rising) (maxL := 5) (ret := (some .int)) (by decide) rfl ?_
  intro p e s m args below meth c s₁ Bd hml hv
  obtain ⟨rfl, hsz, hP, hK⟩ := hv
  have hx := Bd.exec
  have hb := Bd.bytes
  have hr := Bd.returns
  have hg : ∀ w ∈ GT, w.before ([.ref h0, .ref wy, .int (nI i)] : List Value).toArray s = true := fun w h => atoms_spec (ws := Cond.code yX8_rising cX8_rising 5 (some .int) :: GT) Bd.pre w (List.mem_cons_of_mem _ h)
  have hown : s.vm.findClass RX8 = some m.cls := findClass_of_methodNamed Bd.named
  have hlocks := Bd.notSynchronized
  subst hsz
  have hA : ∀ q : Nat, s.heap.size ≤ q → (fun q : Nat => s.heap.size ≤ q) q := fun _ h => h
  have hS : va_S (fun q : Nat => s.heap.size ≤ q) s.heap s.heap [] := va_S.rf
  have hl := lv_entry ([.ref h0, .ref wy, .int (nI i)]) (n := 5) (Nat.le_of_ble_eq_true rfl)
  rw [lg_entry_eq]
  generalize (lg_sl ([.ref h0, .ref wy, .int (nI i)]) ++ List.replicate (5 - (lg_sl ([.ref h0, .ref wy, .int (nI i)])).length) Slot.unset).toArray = ls at hl ⊢
  have hl : lv_has ls 5 [(0, .ref h0), (1, .ref wy), (2, .int (nI i))] := hl
  refine lv_aload_n hx hb dX8_rising_0 rfl (lv_at hl 1 rfl) ?_
  refine lv_iload_n hx hb dX8_rising_1 rfl (lv_at hl 2 rfl) ?_
  have hPc := hP.sub (ws' := [(wy, .inr (9, [.int (nI N), .int (nI B), .int (nI D), .ref a1, .ref a2, .ref a3, .ref a4, .ref a5, .ref a6])), (a1, .inl (G 0, 10, .inl f1)), (a2, .inl (G 0, 10, .inl f2)), (a3, .inl (G 0, 10, .inl f3)), (a4, .inl (G 0, 6, .inl f4)), (a5, .inl (G 0, 6, .inl f5)), (a6, .inl (G 0, 6, .inl f6))]) [3, 4, 5, 6, 7, 8, 9] rfl
  refine va_calli (va_runVN (As := [.int (nI i)]) (rest := []) ⟨hx, hb, hml, hown, hg⟩ (c_X9_harmInOrder l dC dI G _ wy a1 a2 a3 a4 a5 a6 N B D (nI i) f1 f2 f3 f4 f5 f6 (by have t_n0 : (nI i).toInt = (i : Int) := nI_toInt (by omega); have t_n1 : (nI N).toInt = (N : Int) := nI_toInt (by omega); have t_n2 : (nI B).toInt = (B : Int) := nI_toInt (by omega); have t_n3 : (nI D).toInt = (D : Int) := nI_toInt (by omega); omega) (by have t_n0 : (nI i).toInt = (i : Int) := nI_toInt (by omega); have t_n1 : (nI N).toInt = (N : Int) := nI_toInt (by omega); have t_n2 : (nI B).toInt = (B : Int) := nI_toInt (by omega); have t_n3 : (nI D).toInt = (D : Int) := nI_toInt (by omega); omega) (by have t_n0 : (nI i).toInt = (i : Int) := nI_toInt (by omega); have t_n1 : (nI N).toInt = (N : Int) := nI_toInt (by omega); have t_n2 : (nI B).toInt = (B : Int) := nI_toInt (by omega); have t_n3 : (nI D).toInt = (D : Int) := nI_toInt (by omega); omega)) (kwVN hg hK mfX9_harmInOrder wn_771 ⟨Nat.le_of_ble_eq_true rfl, Nat.le_of_ble_eq_true rfl⟩) (preVR hK hPc (ci := 9) rfl rfl) rfl rfl hl.1 rfl (lv_room (Nat.le_of_ble_eq_true rfl)) dX8_rising_2 ⟨Nat.le_of_ble_eq_true rfl, Nat.le_of_ble_eq_true rfl⟩) hS (fun q h1 h2 => absurd h2 (Nat.not_le.mpr h1)) (fun q h => hA q (Nat.le_trans hS.1 h)) (fun r1 ur1 t H1 locs ht hvm w2 hB hz1 hk1 hS => ?_)
  have hP := keepR hP hk1
  obtain ⟨w2, w2x⟩ := w2
  subst w2
  refine lv_bipush (v := 20) hx hb dX8_rising_5 (by decide) ?_
  refine lv_icmp_ne (tgt := 12) hx hb dX8_rising_7 (by decide) (fun c3 => ?_) (fun c3 => ?_)
  · skip
    refine lv_iconst (v := 0) hx hb dX8_rising_12 (by decide) ?_
    refine lv_istore_n (lv' := [(3, .int 0), (0, .ref h0), (1, .ref wy), (2, .int (nI i))]) hx hb dX8_rising_13 rfl hl (by decide) rfl (fun ls hl => ?_)
    refine lv_iconst (v := 1) hx hb dX8_rising_14 (by decide) ?_
    refine lv_istore (lv' := [(4, .int 1), (3, .int 0), (0, .ref h0), (1, .ref wy), (2, .int (nI i))]) hx hb dX8_rising_15 hl (by decide) rfl (fun ls hl => ?_)
    have loop17_6 : ∀ (nf j4 : Nat), 10 + 1 ≤ j4 + nf → j4 ≤ 10 → 1 ≤ j4 → ∀ (y5 : Int32) (H : Heap) (locs : List Loc), va_P (dC, dI) vwCl (([(h0, .inr (8, [.int tt, .ref ti, .ref to])), (ti, .inl (G 4, 11, .inr (.inr (.inr (.inr (fun ir => if ir < 11 then some (ri ir) else none)))))), (to, .inl (G 4, 11, .inr (.inr (.inr (.inr (fun ir => if ir < 11 then some (ro ir) else none)))))), (wy, .inr (9, [.int (nI N), .int (nI B), .int (nI D), .ref a1, .ref a2, .ref a3, .ref a4, .ref a5, .ref a6])), (a1, .inl (G 0, 10, .inl f1)), (a2, .inl (G 0, 10, .inl f2)), (a3, .inl (G 0, 10, .inl f3)), (a4, .inl (G 0, 6, .inl f4)), (a5, .inl (G 0, 6, .inl f5)), (a6, .inl (G 0, 6, .inl f6))] : va_W) ++ ((((List.range 11).map (fun iq => (ri iq, .inl (G 0, 10, .inl (F iq))))) : va_W) ++ ((((List.range 11).map (fun iq => (ro iq, .inl (G 0, 10, .inl (E iq))))) : va_W) ++ []))) H → va_S (fun q : Nat => s.heap.size ≤ q) s.heap H locs → ∀ (ls : Array Slot), lv_has ls 5 [(4, .int (nI j4)), (3, .int y5), (0, .ref h0), (1, .ref wy), (2, .int (nI i))] → W p l e (headSpec (Cond.code yX8_rising cX8_rising 5 (some .int) :: GT) ({ frames := 4, cells := 0, slots := 0, locals := 88 } : Room)).room s m ([.ref h0, .ref wy, .int (nI i)] : List Value).toArray below meth c H locs 0 0 (MQ below (va_Qi (fun (r : Int32) (u : Unit) => match u with | _ => (True) ∧ True) (fun _ _ => True) (fun q : Nat => s.heap.size ≤ q)) ([.ref h0, .ref wy, .int (nI i)] : List Value).toArray s 0 0 (fun q : Nat => s.heap.size ≤ q)) (F0 m 17 ls []) := by
      intro nf
      induction nf with
      | zero => intro j4 h1 h2; exact absurd h1 (by omega)
      | succ nf ih17_6 =>
        intro j4 hn7 hj8 hlo_j4 y5 H locs hP hS ls hl
        refine lv_iload hx hb dX8_rising_17 (lv_at hl 0 rfl) ?_
        refine lv_bipush (v := 10) hx hb dX8_rising_19 (by decide) ?_
        refine lv_icmp_ge (tgt := 61) hx hb dX8_rising_21 (by decide) (fun c9 => ?_) (fun c9 => ?_)
        · skip
          have n10 : 10 ≤ j4 := by have t := leI c9; rw [nI_toInt (n := j4) (by omega)] at t; have : (10 : Int32).toInt = 10 := (by decide); omega
          refine lv_iload_n hx hb dX8_rising_61 rfl (lv_at hl 1 rfl) ?_
          have hpost : True := by
            trivial
          refine W.widen (k := 0) (n := 0) (by omega) (by omega) ?_
          exact W.iret (v := y5) hx hb hr (fun t ht hW => ⟨⟨y5, (), rfl, ⟨hpost, trivial⟩, trivial⟩, hS.F ht⟩) hS.2.2 dX8_rising_62
        · skip
          have n11 : j4 < 10 := by have t := nleI c9; rw [nI_toInt (n := j4) (by omega)] at t; have : (10 : Int32).toInt = 10 := (by decide); omega
          refine lv_iload_n hx hb dX8_rising_24 rfl (lv_at hl 1 rfl) ?_
          refine lv_aload_n hx hb dX8_rising_25 rfl (lv_at hl 2 rfl) ?_
          refine va_get (D := (dC, dI)) (ci := 8) (v := .ref ti) (C := RX8) (T := TX8) (N := 3) hx hb hg inG8 hown hK.1 hP 0 rfl rfl 1 (by decide) (hg _ wt_260) (fun _ h9 => h9) rfl dX8_rising_26 ?_
          refine lv_iload_n hx hb dX8_rising_29 rfl (lv_at hl 4 rfl) ?_
          refine va_aldA hx hb hK.1 hP 1 4 rfl rfl (vp_in_nI (by have t_c3 := neI c3; have t_hj8 := hj8; have t_hlo_j4 := hlo_j4; have t_n11 := n11; have : (20 : Int32).toInt = 20 := (by decide); have t_n0 : (nI i).toInt = (i : Int) := nI_toInt (by omega); have t_n1 : (nI N).toInt = (N : Int) := nI_toInt (by omega); have t_n2 : (nI B).toInt = (B : Int) := nI_toInt (by omega); have t_n3 : (nI D).toInt = (D : Int) := nI_toInt (by omega); have t_n4 : (nI j4).toInt = (j4 : Int) := nI_toInt (by omega); omega) (by decide)) dX8_rising_30 ?_
          refine lv_cgv (y := .ref (ri i)) (rowref (by have t_c3 := neI c3; have t_hj8 := hj8; have t_hlo_j4 := hlo_j4; have t_n11 := n11; have : (20 : Int32).toInt = 20 := (by decide); have t_n0 : (nI i).toInt = (i : Int) := nI_toInt (by omega); have t_n1 : (nI N).toInt = (N : Int) := nI_toInt (by omega); have t_n2 : (nI B).toInt = (B : Int) := nI_toInt (by omega); have t_n3 : (nI D).toInt = (D : Int) := nI_toInt (by omega); have t_n4 : (nI j4).toInt = (j4 : Int) := nI_toInt (by omega); omega) (by decide)) ?_
          refine lv_iload hx hb dX8_rising_31 (lv_at hl 0 rfl) ?_
          refine va_iald hx hb hK.1 (blk_P (j := i) hP (by have t_c3 := neI c3; have t_hj8 := hj8; have t_hlo_j4 := hlo_j4; have t_n11 := n11; have : (20 : Int32).toInt = 20 := (by decide); have t_n0 : (nI i).toInt = (i : Int) := nI_toInt (by omega); have t_n1 : (nI N).toInt = (N : Int) := nI_toInt (by omega); have t_n2 : (nI B).toInt = (B : Int) := nI_toInt (by omega); have t_n3 : (nI D).toInt = (D : Int) := nI_toInt (by omega); have t_n4 : (nI j4).toInt = (j4 : Int) := nI_toInt (by omega); omega)) 0 0 rfl rfl (vp_in_nI (by have t_c3 := neI c3; have t_hj8 := hj8; have t_hlo_j4 := hlo_j4; have t_n11 := n11; have : (20 : Int32).toInt = 20 := (by decide); have t_n0 : (nI i).toInt = (i : Int) := nI_toInt (by omega); have t_n1 : (nI N).toInt = (N : Int) := nI_toInt (by omega); have t_n2 : (nI B).toInt = (B : Int) := nI_toInt (by omega); have t_n3 : (nI D).toInt = (D : Int) := nI_toInt (by omega); have t_n4 : (nI j4).toInt = (j4 : Int) := nI_toInt (by omega); omega) (by decide)) dX8_rising_33 ?_
          refine lv_cg (y := F i j4) (by rw [nI_clamp (by have t_c3 := neI c3; have t_hj8 := hj8; have t_hlo_j4 := hlo_j4; have t_n11 := n11; have : (20 : Int32).toInt = 20 := (by decide); have t_n0 : (nI i).toInt = (i : Int) := nI_toInt (by omega); have t_n1 : (nI N).toInt = (N : Int) := nI_toInt (by omega); have t_n2 : (nI B).toInt = (B : Int) := nI_toInt (by omega); have t_n3 : (nI D).toInt = (D : Int) := nI_toInt (by omega); have t_n4 : (nI j4).toInt = (j4 : Int) := nI_toInt (by omega); omega)]) ?_
          refine lv_aload_n hx hb dX8_rising_34 rfl (lv_at hl 2 rfl) ?_
          refine va_get (D := (dC, dI)) (ci := 8) (v := .ref to) (C := RX8) (T := TX8) (N := 3) hx hb hg inG8 hown hK.1 hP 0 rfl rfl 2 (by decide) (hg _ wt_261) (fun _ h9 => h9) rfl dX8_rising_35 ?_
          refine lv_iload_n hx hb dX8_rising_38 rfl (lv_at hl 4 rfl) ?_
          refine lv_iconst (v := 1) hx hb dX8_rising_39 (by decide) ?_
          refine lv_iadd hx hb dX8_rising_40 ?_
          refine lv_cg (y := nI (i + 1)) (by rw [show (1 : Int32) = nI 1 from rfl]; exact nI_add _ _) ?_
          refine va_aldA hx hb hK.1 hP 2 4 rfl rfl (vp_in_nI (by have t_c3 := neI c3; have t_hj8 := hj8; have t_hlo_j4 := hlo_j4; have t_n11 := n11; have : (20 : Int32).toInt = 20 := (by decide); have t_n0 : (nI i).toInt = (i : Int) := nI_toInt (by omega); have t_n1 : (nI N).toInt = (N : Int) := nI_toInt (by omega); have t_n2 : (nI B).toInt = (B : Int) := nI_toInt (by omega); have t_n3 : (nI D).toInt = (D : Int) := nI_toInt (by omega); have t_n4 : (nI j4).toInt = (j4 : Int) := nI_toInt (by omega); omega) (by decide)) dX8_rising_41 ?_
          refine lv_cgv (y := .ref (ro (i + 1))) (rowref (by have t_c3 := neI c3; have t_hj8 := hj8; have t_hlo_j4 := hlo_j4; have t_n11 := n11; have : (20 : Int32).toInt = 20 := (by decide); have t_n0 : (nI i).toInt = (i : Int) := nI_toInt (by omega); have t_n1 : (nI N).toInt = (N : Int) := nI_toInt (by omega); have t_n2 : (nI B).toInt = (B : Int) := nI_toInt (by omega); have t_n3 : (nI D).toInt = (D : Int) := nI_toInt (by omega); have t_n4 : (nI j4).toInt = (j4 : Int) := nI_toInt (by omega); omega) (by decide)) ?_
          refine lv_bipush (v := 9) hx hb dX8_rising_42 (by decide) ?_
          refine lv_iload hx hb dX8_rising_44 (lv_at hl 0 rfl) ?_
          refine lv_iconst (v := 1) hx hb dX8_rising_46 (by decide) ?_
          refine lv_iadd hx hb dX8_rising_47 ?_
          refine lv_cg (y := nI (j4 + 1)) (by rw [show (1 : Int32) = nI 1 from rfl]; exact nI_add _ _) ?_
          have hPc := hP.sub (ws' := []) [] rfl
          refine va_calli (va_runS (As := [.int 9, .int (nI (j4 + 1))]) (rest := [.ref (ro (i + 1)), .int (F i j4), .int y5]) ⟨hx, hb, hml, hown, hg⟩ (c_J9_min l dC dI G _ 9 (nI (j4 + 1)) ) (kwS hg mfJ9_min_7cf53 wt_776 ⟨Nat.le_of_ble_eq_true rfl, Nat.le_of_ble_eq_true rfl⟩) (preSR hK hPc) rfl rfl hl.1 rfl (lv_room (Nat.le_of_ble_eq_true rfl)) dX8_rising_48 ⟨Nat.le_of_ble_eq_true rfl, Nat.le_of_ble_eq_true rfl⟩) hS (fun q h1 h2 => absurd h2 (Nat.not_le.mpr h1)) (fun q h => hA q (Nat.le_trans hS.1 h)) (fun r12 ur12 t H1 locs ht hvm w13 hB hz1 hk1 hS => ?_)
          have hP := keepR hP hk1
          obtain ⟨w13, w13x⟩ := w13
          have w13 : r12 = nI (min 9 (j4 + 1)) := w13.trans (mn_nI (a := 9) (b := (j4 + 1)) (by omega) (by omega))
          subst w13
          refine va_iald hx hb hK.1 (blk_P2 (j := (i + 1)) hP (by have t_c3 := neI c3; have t_hj8 := hj8; have t_hlo_j4 := hlo_j4; have t_n11 := n11; have : (20 : Int32).toInt = 20 := (by decide); have t_n0 : (nI i).toInt = (i : Int) := nI_toInt (by omega); have t_n1 : (nI N).toInt = (N : Int) := nI_toInt (by omega); have t_n2 : (nI B).toInt = (B : Int) := nI_toInt (by omega); have t_n3 : (nI D).toInt = (D : Int) := nI_toInt (by omega); have t_n4 : (nI j4).toInt = (j4 : Int) := nI_toInt (by omega); omega)) 0 0 rfl rfl (vp_in_nI (by have t_c3 := neI c3; have t_hj8 := hj8; have t_hlo_j4 := hlo_j4; have t_n11 := n11; have : (20 : Int32).toInt = 20 := (by decide); have t_n0 : (nI i).toInt = (i : Int) := nI_toInt (by omega); have t_n1 : (nI N).toInt = (N : Int) := nI_toInt (by omega); have t_n2 : (nI B).toInt = (B : Int) := nI_toInt (by omega); have t_n3 : (nI D).toInt = (D : Int) := nI_toInt (by omega); have t_n4 : (nI j4).toInt = (j4 : Int) := nI_toInt (by omega); omega) (by decide)) dX8_rising_51 ?_
          refine lv_cg (y := E (i + 1) (min 9 (j4 + 1))) (by rw [nI_clamp (by have t_c3 := neI c3; have t_hj8 := hj8; have t_hlo_j4 := hlo_j4; have t_n11 := n11; have : (20 : Int32).toInt = 20 := (by decide); have t_n0 : (nI i).toInt = (i : Int) := nI_toInt (by omega); have t_n1 : (nI N).toInt = (N : Int) := nI_toInt (by omega); have t_n2 : (nI B).toInt = (B : Int) := nI_toInt (by omega); have t_n3 : (nI D).toInt = (D : Int) := nI_toInt (by omega); have t_n4 : (nI j4).toInt = (j4 : Int) := nI_toInt (by omega); omega)]) ?_
          refine lv_imul hx hb dX8_rising_52 ?_
          refine lv_topi (fun v14 ev14 => ?_)
          refine lv_iadd hx hb dX8_rising_53 ?_
          refine lv_istore_n (lv' := [(3, .int (y5 + v14)), (4, .int (nI j4)), (0, .ref h0), (1, .ref wy), (2, .int (nI i))]) hx hb dX8_rising_54 rfl hl (by decide) rfl (fun ls hl => ?_)
          refine lv_iinc (v := nI (j4 + 1)) (lv' := [(4, .int (nI (j4 + 1))), (3, .int (y5 + v14)), (0, .ref h0), (1, .ref wy), (2, .int (nI i))]) hx hb dX8_rising_55 hl (k := 1) rfl (by rw [show Int32.ofInt 1 = nI 1 from by decide]; exact nI_add _ _) (by decide) rfl (fun ls hl => ?_)
          refine lv_goto (tgt := 17) hx hb dX8_rising_58 (by decide) ?_
          exact ih17_6 (j4 + 1) (by omega) (by omega) (by omega) (y5 + v14) _ _ hP hS ls (lv_sub hl [0, 1, 2, 3, 4] rfl)
    exact loop17_6 (10 + 1) 1 (by omega) (by omega) (by omega) 0 _ _ hP hS ls (lv_sub hl [0, 1, 2, 3, 4] rfl)
  · skip
    refine lv_iconst (v := 0) hx hb dX8_rising_10 (by decide) ?_
    have hpost : True := by
      trivial
    refine W.widen (k := 0) (n := 0) (by omega) (by omega) ?_
    exact W.iret (v := 0) hx hb hr (fun t ht hW => ⟨⟨0, (), rfl, ⟨hpost, trivial⟩, trivial⟩, hS.F ht⟩) hS.2.2 dX8_rising_11

set_option maxHeartbeats 1000000 in
set_option maxRecDepth 100000 in
theorem c_X6_isSheet (l : Launch) (dC : Nat → ClassId) (dI : Nat → Nat → Nat) (G : Nat → ClassId) (sz : Nat) (i : Int32)  : Met l yX6_isSheet (Cond.code yX6_isSheet cX6_isSheet 1 (some .boolean) :: GT) ({ frames := 0, cells := 0, slots := 0, locals := 0 } : Room) (PcR [.int i] dC dI G [] sz) (va_Qi (fun (r : Int32) (u : Unit) => match u with | _ => (r = if 0 ≤ i.toInt ∧ i.toInt < 4 then 1 else 0) ∧ True) (fun _ _ => True) (fun q : Nat => sz ≤ q)) 0 0 (fun q : Nat => sz ≤ q) := by
  refine Met.ofW (cc := cX6_isSheet) (maxL := 1) (ret := (some .boolean)) (by decide) rfl ?_
  intro p e s m args below meth c s₁ Bd hml hv
  obtain ⟨rfl, hsz, hP, hK⟩ := hv
  have hx := Bd.exec
  have hb := Bd.bytes
  have hr := Bd.returns
  have hg : ∀ w ∈ GT, w.before ([.int i] : List Value).toArray s = true := fun w h => atoms_spec (ws := Cond.code yX6_isSheet cX6_isSheet 1 (some .boolean) :: GT) Bd.pre w (List.mem_cons_of_mem _ h)
  have hown : s.vm.findClass RX6 = some m.cls := findClass_of_methodNamed Bd.named
  have hlocks := Bd.notSynchronized
  subst hsz
  have hA : ∀ q : Nat, s.heap.size ≤ q → (fun q : Nat => s.heap.size ≤ q) q := fun _ h => h
  have hS : va_S (fun q : Nat => s.heap.size ≤ q) s.heap s.heap [] := va_S.rf
  have hl := lv_entry ([.int i]) (n := 1) (Nat.le_of_ble_eq_true rfl)
  rw [lg_entry_eq]
  generalize (lg_sl ([.int i]) ++ List.replicate (1 - (lg_sl ([.int i])).length) Slot.unset).toArray = ls at hl ⊢
  have hl : lv_has ls 1 [(0, .int i)] := hl
  refine lv_iload_n hx hb dX6_isSheet_0 rfl (lv_at hl 0 rfl) ?_
  refine lv_if_lt (tgt := 13) hx hb dX6_isSheet_1 (by decide) (fun c1 => ?_) (fun c1 => ?_)
  · skip
    refine lv_iconst (v := 0) hx hb dX6_isSheet_13 (by decide) ?_
    have hpost : (0 : Int32) = if 0 ≤ i.toInt ∧ i.toInt < 4 then 1 else 0 := by
      have t_c1 := ltI c1
      have : (0 : Int32).toInt = 0 := (by decide)
      first | rfl | ((repeat' split) <;> first | rfl | omega)
    refine W.widen (k := 0) (n := 0) (by omega) (by omega) ?_
    exact W.zret (v := 0) hx hb hr (by first | rfl | decide | exact rfl) (fun t ht hW => ⟨⟨0, (), rfl, ⟨hpost, trivial⟩, trivial⟩, hS.F ht⟩) hS.2.2 dX6_isSheet_14
  · skip
    refine lv_iload_n hx hb dX6_isSheet_4 rfl (lv_at hl 0 rfl) ?_
    refine lv_iconst (v := 4) hx hb dX6_isSheet_5 (by decide) ?_
    refine lv_icmp_ge (tgt := 13) hx hb dX6_isSheet_6 (by decide) (fun c2 => ?_) (fun c2 => ?_)
    · skip
      refine lv_iconst (v := 0) hx hb dX6_isSheet_13 (by decide) ?_
      have hpost : (0 : Int32) = if 0 ≤ i.toInt ∧ i.toInt < 4 then 1 else 0 := by
        have t_c1 := nltI c1
        have t_c2 := leI c2
        have : (0 : Int32).toInt = 0 := (by decide)
        have : (4 : Int32).toInt = 4 := (by decide)
        first | rfl | ((repeat' split) <;> first | rfl | omega)
      refine W.widen (k := 0) (n := 0) (by omega) (by omega) ?_
      exact W.zret (v := 0) hx hb hr (by first | rfl | decide | exact rfl) (fun t ht hW => ⟨⟨0, (), rfl, ⟨hpost, trivial⟩, trivial⟩, hS.F ht⟩) hS.2.2 dX6_isSheet_14
    · skip
      refine lv_iconst (v := 1) hx hb dX6_isSheet_9 (by decide) ?_
      refine lv_goto (tgt := 14) hx hb dX6_isSheet_10 (by decide) ?_
      have hpost : (1 : Int32) = if 0 ≤ i.toInt ∧ i.toInt < 4 then 1 else 0 := by
        have t_c1 := nltI c1
        have t_c2 := nleI c2
        have : (0 : Int32).toInt = 0 := (by decide)
        have : (4 : Int32).toInt = 4 := (by decide)
        first | rfl | ((repeat' split) <;> first | rfl | omega)
      refine W.widen (k := 0) (n := 0) (by omega) (by omega) ?_
      exact W.zret (v := 1) hx hb hr (by first | rfl | decide | exact rfl) (fun t ht hW => ⟨⟨1, (), rfl, ⟨hpost, trivial⟩, trivial⟩, hS.F ht⟩) hS.2.2 dX6_isSheet_14

set_option maxHeartbeats 1000000 in
set_option maxRecDepth 100000 in
theorem c_X6_isLane (l : Launch) (dC : Nat → ClassId) (dI : Nat → Nat → Nat) (G : Nat → ClassId) (sz : Nat) (i : Int32)  : Met l yX6_isLane (Cond.code yX6_isLane cX6_isLane 1 (some .boolean) :: GT) ({ frames := 0, cells := 0, slots := 0, locals := 0 } : Room) (PcR [.int i] dC dI G [] sz) (va_Qi (fun (r : Int32) (u : Unit) => match u with | _ => (r = if 0 ≤ i.toInt ∧ i.toInt ≤ 2 then 1 else 0) ∧ True) (fun _ _ => True) (fun q : Nat => sz ≤ q)) 0 0 (fun q : Nat => sz ≤ q) := by
  refine Met.ofW (cc := cX6_isLane) (maxL := 1) (ret := (some .boolean)) (by decide) rfl ?_
  intro p e s m args below meth c s₁ Bd hml hv
  obtain ⟨rfl, hsz, hP, hK⟩ := hv
  have hx := Bd.exec
  have hb := Bd.bytes
  have hr := Bd.returns
  have hg : ∀ w ∈ GT, w.before ([.int i] : List Value).toArray s = true := fun w h => atoms_spec (ws := Cond.code yX6_isLane cX6_isLane 1 (some .boolean) :: GT) Bd.pre w (List.mem_cons_of_mem _ h)
  have hown : s.vm.findClass RX6 = some m.cls := findClass_of_methodNamed Bd.named
  have hlocks := Bd.notSynchronized
  subst hsz
  have hA : ∀ q : Nat, s.heap.size ≤ q → (fun q : Nat => s.heap.size ≤ q) q := fun _ h => h
  have hS : va_S (fun q : Nat => s.heap.size ≤ q) s.heap s.heap [] := va_S.rf
  have hl := lv_entry ([.int i]) (n := 1) (Nat.le_of_ble_eq_true rfl)
  rw [lg_entry_eq]
  generalize (lg_sl ([.int i]) ++ List.replicate (1 - (lg_sl ([.int i])).length) Slot.unset).toArray = ls at hl ⊢
  have hl : lv_has ls 1 [(0, .int i)] := hl
  refine lv_iload_n hx hb dX6_isLane_0 rfl (lv_at hl 0 rfl) ?_
  refine lv_if_lt (tgt := 13) hx hb dX6_isLane_1 (by decide) (fun c1 => ?_) (fun c1 => ?_)
  · skip
    refine lv_iconst (v := 0) hx hb dX6_isLane_13 (by decide) ?_
    have hpost : (0 : Int32) = if 0 ≤ i.toInt ∧ i.toInt ≤ 2 then 1 else 0 := by
      have t_c1 := ltI c1
      have : (0 : Int32).toInt = 0 := (by decide)
      first | rfl | ((repeat' split) <;> first | rfl | omega)
    refine W.widen (k := 0) (n := 0) (by omega) (by omega) ?_
    exact W.zret (v := 0) hx hb hr (by first | rfl | decide | exact rfl) (fun t ht hW => ⟨⟨0, (), rfl, ⟨hpost, trivial⟩, trivial⟩, hS.F ht⟩) hS.2.2 dX6_isLane_14
  · skip
    refine lv_iload_n hx hb dX6_isLane_4 rfl (lv_at hl 0 rfl) ?_
    refine lv_iconst (v := 2) hx hb dX6_isLane_5 (by decide) ?_
    refine lv_icmp_gt (tgt := 13) hx hb dX6_isLane_6 (by decide) (fun c2 => ?_) (fun c2 => ?_)
    · skip
      refine lv_iconst (v := 0) hx hb dX6_isLane_13 (by decide) ?_
      have hpost : (0 : Int32) = if 0 ≤ i.toInt ∧ i.toInt ≤ 2 then 1 else 0 := by
        have t_c1 := nltI c1
        have t_c2 := ltI c2
        have : (0 : Int32).toInt = 0 := (by decide)
        have : (2 : Int32).toInt = 2 := (by decide)
        first | rfl | ((repeat' split) <;> first | rfl | omega)
      refine W.widen (k := 0) (n := 0) (by omega) (by omega) ?_
      exact W.zret (v := 0) hx hb hr (by first | rfl | decide | exact rfl) (fun t ht hW => ⟨⟨0, (), rfl, ⟨hpost, trivial⟩, trivial⟩, hS.F ht⟩) hS.2.2 dX6_isLane_14
    · skip
      refine lv_iconst (v := 1) hx hb dX6_isLane_9 (by decide) ?_
      refine lv_goto (tgt := 14) hx hb dX6_isLane_10 (by decide) ?_
      have hpost : (1 : Int32) = if 0 ≤ i.toInt ∧ i.toInt ≤ 2 then 1 else 0 := by
        have t_c1 := nltI c1
        have t_c2 := nltI c2
        have : (0 : Int32).toInt = 0 := (by decide)
        have : (2 : Int32).toInt = 2 := (by decide)
        first | rfl | ((repeat' split) <;> first | rfl | omega)
      refine W.widen (k := 0) (n := 0) (by omega) (by omega) ?_
      exact W.zret (v := 1) hx hb hr (by first | rfl | decide | exact rfl) (fun t ht hW => ⟨⟨1, (), rfl, ⟨hpost, trivial⟩, trivial⟩, hS.F ht⟩) hS.2.2 dX6_isLane_14

set_option maxHeartbeats 1000000 in
set_option maxRecDepth 100000 in
theorem c_X6_sizeOf (l : Launch) (dC : Nat → ClassId) (dI : Nat → Nat → Nat) (G : Nat → ClassId) (sz : Nat) (h0 la si ce fi se k : Nat) (x8 x9 : Int32) (fl fz : Nat → Int32) (hk : k < 4) : Met l yX6_sizeOf (Cond.code yX6_sizeOf cX6_sizeOf 2 (some .int) :: GT) ({ frames := 0, cells := 0, slots := 0, locals := 0 } : Room) (PcR [.ref h0, .int (nI k)] dC dI G [(h0, .inr (6, [.ref la, .ref si, .ref ce, .int x8, .int x9, .ref fi, .ref se])), (la, .inl (G 0, 4, .inl fl)), (si, .inl (G 0, 4, .inl fz))] sz) (va_Qi (fun (r : Int32) (u : Unit) => match u with | _ => (r = if fl k = -1 then -4 else fz k) ∧ True) (fun _ _ => True) (fun q : Nat => sz ≤ q)) 0 0 (fun q : Nat => sz ≤ q) := by
  refine Met.ofW (cc := cX6_sizeOf) (maxL := 2) (ret := (some .int)) (by decide) rfl ?_
  intro p e s m args below meth c s₁ Bd hml hv
  obtain ⟨rfl, hsz, hP, hK⟩ := hv
  have hx := Bd.exec
  have hb := Bd.bytes
  have hr := Bd.returns
  have hg : ∀ w ∈ GT, w.before ([.ref h0, .int (nI k)] : List Value).toArray s = true := fun w h => atoms_spec (ws := Cond.code yX6_sizeOf cX6_sizeOf 2 (some .int) :: GT) Bd.pre w (List.mem_cons_of_mem _ h)
  have hown : s.vm.findClass RX6 = some m.cls := findClass_of_methodNamed Bd.named
  have hlocks := Bd.notSynchronized
  subst hsz
  have hA : ∀ q : Nat, s.heap.size ≤ q → (fun q : Nat => s.heap.size ≤ q) q := fun _ h => h
  have hS : va_S (fun q : Nat => s.heap.size ≤ q) s.heap s.heap [] := va_S.rf
  have hl := lv_entry ([.ref h0, .int (nI k)]) (n := 2) (Nat.le_of_ble_eq_true rfl)
  rw [lg_entry_eq]
  generalize (lg_sl ([.ref h0, .int (nI k)]) ++ List.replicate (2 - (lg_sl ([.ref h0, .int (nI k)])).length) Slot.unset).toArray = ls at hl ⊢
  have hl : lv_has ls 2 [(0, .ref h0), (1, .int (nI k))] := hl
  refine lv_aload_n hx hb dX6_sizeOf_0 rfl (lv_at hl 0 rfl) ?_
  refine va_get (D := (dC, dI)) (ci := 6) (v := .ref la) (C := RX6) (T := TX6) (N := 7) hx hb hg inG6 hown hK.1 hP 0 rfl rfl 0 (by decide) (hg _ wt_276) (fun _ h9 => h9) rfl dX6_sizeOf_1 ?_
  refine lv_iload_n hx hb dX6_sizeOf_4 rfl (lv_at hl 1 rfl) ?_
  refine va_iald hx hb hK.1 hP 1 0 rfl rfl (vp_in_nI (by have t_n0 : (nI k).toInt = (k : Int) := nI_toInt (by omega); omega) (by decide)) dX6_sizeOf_5 ?_
  refine lv_cg (y := fl k) (by rw [nI_clamp (by omega)]) ?_
  refine lv_iconst (v := (-1)) hx hb dX6_sizeOf_6 (by decide) ?_
  refine lv_icmp_ne (tgt := 15) hx hb dX6_sizeOf_7 (by decide) (fun c1 => ?_) (fun c1 => ?_)
  · skip
    refine lv_aload_n hx hb dX6_sizeOf_15 rfl (lv_at hl 0 rfl) ?_
    refine va_get (D := (dC, dI)) (ci := 6) (v := .ref si) (C := RX6) (T := TX6) (N := 7) hx hb hg inG6 hown hK.1 hP 0 rfl rfl 1 (by decide) (hg _ wt_277) (fun _ h9 => h9) rfl dX6_sizeOf_16 ?_
    refine lv_iload_n hx hb dX6_sizeOf_19 rfl (lv_at hl 1 rfl) ?_
    refine va_iald hx hb hK.1 hP 2 0 rfl rfl (vp_in_nI (by have t_c1 := neI c1; have : ((-1) : Int32).toInt = -1 := (by decide); have t_n0 : (nI k).toInt = (k : Int) := nI_toInt (by omega); omega) (by decide)) dX6_sizeOf_20 ?_
    refine lv_cg (y := fz k) (by rw [nI_clamp (by omega)]) ?_
    have hpost : (fz k : Int32) = if fl k = -1 then -4 else fz k := by
      (split <;> first | rfl | contradiction)
    refine W.widen (k := 0) (n := 0) (by omega) (by omega) ?_
    exact W.iret (v := fz k) hx hb hr (fun t ht hW => ⟨⟨fz k, (), rfl, ⟨hpost, trivial⟩, trivial⟩, hS.F ht⟩) hS.2.2 dX6_sizeOf_21
  · skip
    refine lv_bipush (v := (-4)) hx hb dX6_sizeOf_10 (by decide) ?_
    refine lv_goto (tgt := 21) hx hb dX6_sizeOf_12 (by decide) ?_
    have hpost : ((-4) : Int32) = if fl k = -1 then -4 else fz k := by
      (split <;> first | rfl | contradiction)
    refine W.widen (k := 0) (n := 0) (by omega) (by omega) ?_
    exact W.iret (v := (-4)) hx hb hr (fun t ht hW => ⟨⟨(-4), (), rfl, ⟨hpost, trivial⟩, trivial⟩, hS.F ht⟩) hS.2.2 dX6_sizeOf_21

set_option maxHeartbeats 1000000 in
set_option maxRecDepth 100000 in
theorem c_X6_faultAt (l : Launch) (dC : Nat → ClassId) (dI : Nat → Nat → Nat) (G : Nat → ClassId) (sz : Nat) (h0 la si ce fi se k : Nat) (x8 x9 : Int32) (v : Int64) (fl fz : Nat → Int32) (hk : k < 4) : Met l yX6_faultAt (Cond.code yX6_faultAt cX6_faultAt 4 (some .int) :: GT) ({ frames := 0, cells := 0, slots := 0, locals := 0 } : Room) (PcR [.ref h0, .int (nI k), .long v] dC dI G [(h0, .inr (6, [.ref la, .ref si, .ref ce, .int x8, .int x9, .ref fi, .ref se])), (la, .inl (G 0, 4, .inl fl)), (si, .inl (G 0, 4, .inl fz))] sz) (va_Qi (fun (r : Int32) (u : Unit) => match u with | _ => (r = if fl k = -1 then 1 else if v.toInt < 0 ∨ (fz k).toInt ≤ v.toInt then 2 else 0) ∧ True) (fun _ _ => True) (fun q : Nat => sz ≤ q)) 0 0 (fun q : Nat => sz ≤ q) := by
  refine Met.ofW (cc := cX6_faultAt) (maxL := 4) (ret := (some .int)) (by decide) rfl ?_
  intro p e s m args below meth c s₁ Bd hml hv
  obtain ⟨rfl, hsz, hP, hK⟩ := hv
  have hx := Bd.exec
  have hb := Bd.bytes
  have hr := Bd.returns
  have hg : ∀ w ∈ GT, w.before ([.ref h0, .int (nI k), .long v] : List Value).toArray s = true := fun w h => atoms_spec (ws := Cond.code yX6_faultAt cX6_faultAt 4 (some .int) :: GT) Bd.pre w (List.mem_cons_of_mem _ h)
  have hown : s.vm.findClass RX6 = some m.cls := findClass_of_methodNamed Bd.named
  have hlocks := Bd.notSynchronized
  subst hsz
  have hA : ∀ q : Nat, s.heap.size ≤ q → (fun q : Nat => s.heap.size ≤ q) q := fun _ h => h
  have hS : va_S (fun q : Nat => s.heap.size ≤ q) s.heap s.heap [] := va_S.rf
  have hl := lv_entry ([.ref h0, .int (nI k), .long v]) (n := 4) (Nat.le_of_ble_eq_true rfl)
  rw [lg_entry_eq]
  generalize (lg_sl ([.ref h0, .int (nI k), .long v]) ++ List.replicate (4 - (lg_sl ([.ref h0, .int (nI k), .long v])).length) Slot.unset).toArray = ls at hl ⊢
  have hl : lv_has ls 4 [(0, .ref h0), (1, .int (nI k)), (2, .long v)] := hl
  refine lv_aload_n hx hb dX6_faultAt_0 rfl (lv_at hl 0 rfl) ?_
  refine va_get (D := (dC, dI)) (ci := 6) (v := .ref la) (C := RX6) (T := TX6) (N := 7) hx hb hg inG6 hown hK.1 hP 0 rfl rfl 0 (by decide) (hg _ wt_276) (fun _ h9 => h9) rfl dX6_faultAt_1 ?_
  refine lv_iload_n hx hb dX6_faultAt_4 rfl (lv_at hl 1 rfl) ?_
  refine va_iald hx hb hK.1 hP 1 0 rfl rfl (vp_in_nI (by have t_n0 : (nI k).toInt = (k : Int) := nI_toInt (by omega); omega) (by decide)) dX6_faultAt_5 ?_
  refine lv_cg (y := fl k) (by rw [nI_clamp (by omega)]) ?_
  refine lv_iconst (v := (-1)) hx hb dX6_faultAt_6 (by decide) ?_
  refine lv_icmp_ne (tgt := 12) hx hb dX6_faultAt_7 (by decide) (fun c1 => ?_) (fun c1 => ?_)
  · skip
    refine lv_lload_n hx hb dX6_faultAt_12 rfl (lv_at hl 2 rfl) ?_
    refine lv_lconst (v := 0) hx hb dX6_faultAt_13 (by decide) ?_
    refine W.lcmp hx hb dX6_faultAt_14 ?_
    refine lv_if_lt (tgt := 30) hx hb dX6_faultAt_15 (by decide) (fun c2 => ?_) (fun c2 => ?_)
    · skip
      refine lv_iconst (v := 2) hx hb dX6_faultAt_30 (by decide) ?_
      refine lv_goto (tgt := 35) hx hb dX6_faultAt_31 (by decide) ?_
      have hpost : (2 : Int32) = if fl k = -1 then 1 else if v.toInt < 0 ∨ (fz k).toInt ≤ v.toInt then 2 else 0 := by
        have t_c1 := neI c1
        have t_c2 := lcm_lt_t c2
        have : ((-1) : Int32).toInt = -1 := (by decide)
        have : (0 : Int64).toInt = 0 := (by decide)
        have t_n0 : (nI k).toInt = (k : Int) := nI_toInt (by omega)
        try rw [l_ii] at *
        (repeat' split) <;> first | rfl | contradiction | omega
      refine W.widen (k := 0) (n := 0) (by omega) (by omega) ?_
      exact W.iret (v := 2) hx hb hr (fun t ht hW => ⟨⟨2, (), rfl, ⟨hpost, trivial⟩, trivial⟩, hS.F ht⟩) hS.2.2 dX6_faultAt_35
    · skip
      refine lv_lload_n hx hb dX6_faultAt_18 rfl (lv_at hl 2 rfl) ?_
      refine lv_aload_n hx hb dX6_faultAt_19 rfl (lv_at hl 0 rfl) ?_
      refine va_get (D := (dC, dI)) (ci := 6) (v := .ref si) (C := RX6) (T := TX6) (N := 7) hx hb hg inG6 hown hK.1 hP 0 rfl rfl 1 (by decide) (hg _ wt_277) (fun _ h9 => h9) rfl dX6_faultAt_20 ?_
      refine lv_iload_n hx hb dX6_faultAt_23 rfl (lv_at hl 1 rfl) ?_
      refine va_iald hx hb hK.1 hP 2 0 rfl rfl (vp_in_nI (by have t_c1 := neI c1; have t_c2 := lcm_lt_f c2; have : ((-1) : Int32).toInt = -1 := (by decide); have : (0 : Int64).toInt = 0 := (by decide); have t_n0 : (nI k).toInt = (k : Int) := nI_toInt (by omega); omega) (by decide)) dX6_faultAt_24 ?_
      refine lv_cg (y := fz k) (by rw [nI_clamp (by omega)]) ?_
      refine lv_i2l (v := (fz k).toInt64) hx hb dX6_faultAt_25 rfl ?_
      refine W.lcmp hx hb dX6_faultAt_26 ?_
      refine lv_if_lt (tgt := 34) hx hb dX6_faultAt_27 (by decide) (fun c3 => ?_) (fun c3 => ?_)
      · skip
        refine lv_iconst (v := 0) hx hb dX6_faultAt_34 (by decide) ?_
        have hpost : (0 : Int32) = if fl k = -1 then 1 else if v.toInt < 0 ∨ (fz k).toInt ≤ v.toInt then 2 else 0 := by
          have t_c1 := neI c1
          have t_c2 := lcm_lt_f c2
          have t_c3 := lcm_lt_t c3
          have : ((-1) : Int32).toInt = -1 := (by decide)
          have : (0 : Int64).toInt = 0 := (by decide)
          have t_n0 : (nI k).toInt = (k : Int) := nI_toInt (by omega)
          try rw [l_ii] at *
          (repeat' split) <;> first | rfl | contradiction | omega
        refine W.widen (k := 0) (n := 0) (by omega) (by omega) ?_
        exact W.iret (v := 0) hx hb hr (fun t ht hW => ⟨⟨0, (), rfl, ⟨hpost, trivial⟩, trivial⟩, hS.F ht⟩) hS.2.2 dX6_faultAt_35
      · skip
        refine lv_iconst (v := 2) hx hb dX6_faultAt_30 (by decide) ?_
        refine lv_goto (tgt := 35) hx hb dX6_faultAt_31 (by decide) ?_
        have hpost : (2 : Int32) = if fl k = -1 then 1 else if v.toInt < 0 ∨ (fz k).toInt ≤ v.toInt then 2 else 0 := by
          have t_c1 := neI c1
          have t_c2 := lcm_lt_f c2
          have t_c3 := lcm_lt_f c3
          have : ((-1) : Int32).toInt = -1 := (by decide)
          have : (0 : Int64).toInt = 0 := (by decide)
          have t_n0 : (nI k).toInt = (k : Int) := nI_toInt (by omega)
          try rw [l_ii] at *
          (repeat' split) <;> first | rfl | contradiction | omega
        refine W.widen (k := 0) (n := 0) (by omega) (by omega) ?_
        exact W.iret (v := 2) hx hb hr (fun t ht hW => ⟨⟨2, (), rfl, ⟨hpost, trivial⟩, trivial⟩, hS.F ht⟩) hS.2.2 dX6_faultAt_35
  · skip
    refine lv_iconst (v := 1) hx hb dX6_faultAt_10 (by decide) ?_
    have hpost : (1 : Int32) = if fl k = -1 then 1 else if v.toInt < 0 ∨ (fz k).toInt ≤ v.toInt then 2 else 0 := by
      have t_c1 := eqI c1
      have : ((-1) : Int32).toInt = -1 := (by decide)
      have t_n0 : (nI k).toInt = (k : Int) := nI_toInt (by omega)
      try rw [l_ii] at *
      (repeat' split) <;> first | rfl | contradiction | omega
    refine W.widen (k := 0) (n := 0) (by omega) (by omega) ?_
    exact W.iret (v := 1) hx hb hr (fun t ht hW => ⟨⟨1, (), rfl, ⟨hpost, trivial⟩, trivial⟩, hS.F ht⟩) hS.2.2 dX6_faultAt_11

set_option maxHeartbeats 1000000 in
set_option maxRecDepth 100000 in
theorem c_X9_copyOf (l : Launch) (dC : Nat → ClassId) (dI : Nat → Nat → Nat) (G : Nat → ClassId) (sz : Nat) (h0 o0 a1 a2 a3 a4 a5 a6 c1 c2 c3 c4 c5 c6 : Nat) (x1 x2 x3 y1 y2 y3 : Int32) (f1 f2 f3 f4 f5 f6 z1 z2 z3 z4 z5 z6 : Nat → Int32)  : Met l yX9_copyOf (Cond.code yX9_copyOf cX9_copyOf 2 none :: GT) ({ frames := 1, cells := 0, slots := 0, locals := 100 } : Room) (PcW [.ref h0, .ref o0] dC dI G [(h0, .inr (9, [.int x1, .int x2, .int x3, .ref a1, .ref a2, .ref a3, .ref a4, .ref a5, .ref a6])), (a1, .inl (G 0, 10, .inl f1)), (a2, .inl (G 0, 10, .inl f2)), (a3, .inl (G 0, 10, .inl f3)), (a4, .inl (G 0, 6, .inl f4)), (a5, .inl (G 0, 6, .inl f5)), (a6, .inl (G 0, 6, .inl f6)), (o0, .inr (9, [.int y1, .int y2, .int y3, .ref c1, .ref c2, .ref c3, .ref c4, .ref c5, .ref c6])), (c1, .inl (G 0, 10, .inl z1)), (c2, .inl (G 0, 10, .inl z2)), (c3, .inl (G 0, 10, .inl z3)), (c4, .inl (G 0, 6, .inl z4)), (c5, .inl (G 0, 6, .inl z5)), (c6, .inl (G 0, 6, .inl z6))] sz) (va_Qv (fun (u : (Nat → Int32) × (Nat → Int32) × (Nat → Int32) × (Nat → Int32) × (Nat → Int32) × (Nat → Int32)) => match u with | (u1, u2, u3, u4, u5, u6) => True) (fun (u : (Nat → Int32) × (Nat → Int32) × (Nat → Int32) × (Nat → Int32) × (Nat → Int32) × (Nat → Int32)) (t : State) => match u with | (u1, u2, u3, u4, u5, u6) => va_P (dC, dI) vwCl [(h0, .inr (9, [.int y1, .int y2, .int y3, .ref a1, .ref a2, .ref a3, .ref a4, .ref a5, .ref a6])), (a1, .inl (G 0, 10, .inl u1)), (a2, .inl (G 0, 10, .inl u2)), (a3, .inl (G 0, 10, .inl u3)), (a4, .inl (G 0, 6, .inl u4)), (a5, .inl (G 0, 6, .inl u5)), (a6, .inl (G 0, 6, .inl u6)), (o0, .inr (9, [.int y1, .int y2, .int y3, .ref c1, .ref c2, .ref c3, .ref c4, .ref c5, .ref c6])), (c1, .inl (G 0, 10, .inl z1)), (c2, .inl (G 0, 10, .inl z2)), (c3, .inl (G 0, 10, .inl z3)), (c4, .inl (G 0, 6, .inl z4)), (c5, .inl (G 0, 6, .inl z5)), (c6, .inl (G 0, 6, .inl z6))] t.heap ∧ va_D (va_A [(h0, .inr (9, [.int x1, .int x2, .int x3, .ref a1, .ref a2, .ref a3, .ref a4, .ref a5, .ref a6])), (a1, .inl (G 0, 10, .inl f1)), (a2, .inl (G 0, 10, .inl f2)), (a3, .inl (G 0, 10, .inl f3)), (a4, .inl (G 0, 6, .inl f4)), (a5, .inl (G 0, 6, .inl f5)), (a6, .inl (G 0, 6, .inl f6)), (o0, .inr (9, [.int y1, .int y2, .int y3, .ref c1, .ref c2, .ref c3, .ref c4, .ref c5, .ref c6])), (c1, .inl (G 0, 10, .inl z1)), (c2, .inl (G 0, 10, .inl z2)), (c3, .inl (G 0, 10, .inl z3)), (c4, .inl (G 0, 6, .inl z4)), (c5, .inl (G 0, 6, .inl z5)), (c6, .inl (G 0, 6, .inl z6))] sz) [(h0, .inr (9, [.int y1, .int y2, .int y3, .ref a1, .ref a2, .ref a3, .ref a4, .ref a5, .ref a6])), (a1, .inl (G 0, 10, .inl u1)), (a2, .inl (G 0, 10, .inl u2)), (a3, .inl (G 0, 10, .inl u3)), (a4, .inl (G 0, 6, .inl u4)), (a5, .inl (G 0, 6, .inl u5)), (a6, .inl (G 0, 6, .inl u6)), (o0, .inr (9, [.int y1, .int y2, .int y3, .ref c1, .ref c2, .ref c3, .ref c4, .ref c5, .ref c6])), (c1, .inl (G 0, 10, .inl z1)), (c2, .inl (G 0, 10, .inl z2)), (c3, .inl (G 0, 10, .inl z3)), (c4, .inl (G 0, 6, .inl z4)), (c5, .inl (G 0, 6, .inl z5)), (c6, .inl (G 0, 6, .inl z6))]) (va_A [(h0, .inr (9, [.int x1, .int x2, .int x3, .ref a1, .ref a2, .ref a3, .ref a4, .ref a5, .ref a6])), (a1, .inl (G 0, 10, .inl f1)), (a2, .inl (G 0, 10, .inl f2)), (a3, .inl (G 0, 10, .inl f3)), (a4, .inl (G 0, 6, .inl f4)), (a5, .inl (G 0, 6, .inl f5)), (a6, .inl (G 0, 6, .inl f6)), (o0, .inr (9, [.int y1, .int y2, .int y3, .ref c1, .ref c2, .ref c3, .ref c4, .ref c5, .ref c6])), (c1, .inl (G 0, 10, .inl z1)), (c2, .inl (G 0, 10, .inl z2)), (c3, .inl (G 0, 10, .inl z3)), (c4, .inl (G 0, 6, .inl z4)), (c5, .inl (G 0, 6, .inl z5)), (c6, .inl (G 0, 6, .inl z6))] sz)) 0 0 (va_A [(h0, .inr (9, [.int x1, .int x2, .int x3, .ref a1, .ref a2, .ref a3, .ref a4, .ref a5, .ref a6])), (a1, .inl (G 0, 10, .inl f1)), (a2, .inl (G 0, 10, .inl f2)), (a3, .inl (G 0, 10, .inl f3)), (a4, .inl (G 0, 6, .inl f4)), (a5, .inl (G 0, 6, .inl f5)), (a6, .inl (G 0, 6, .inl f6)), (o0, .inr (9, [.int y1, .int y2, .int y3, .ref c1, .ref c2, .ref c3, .ref c4, .ref c5, .ref c6])), (c1, .inl (G 0, 10, .inl z1)), (c2, .inl (G 0, 10, .inl z2)), (c3, .inl (G 0, 10, .inl z3)), (c4, .inl (G 0, 6, .inl z4)), (c5, .inl (G 0, 6, .inl z5)), (c6, .inl (G 0, 6, .inl z6))] sz) := by
  refine Met.ofW (cc := cX9_copyOf) (maxL := 2) (ret := none) (by decide) rfl ?_
  intro p e s m args below meth c s₁ Bd hml hv
  obtain ⟨rfl, hsz, hP, hK, hD0⟩ := hv
  have hx := Bd.exec
  have hb := Bd.bytes
  have hr := Bd.returns
  have hg : ∀ w ∈ GT, w.before ([.ref h0, .ref o0] : List Value).toArray s = true := fun w h => atoms_spec (ws := Cond.code yX9_copyOf cX9_copyOf 2 none :: GT) Bd.pre w (List.mem_cons_of_mem _ h)
  have hown : s.vm.findClass RX9 = some m.cls := findClass_of_methodNamed Bd.named
  have hlocks := Bd.notSynchronized
  subst hsz
  have hD := hD0.self (sz := s.heap.size)
  generalize hAe : va_A [(h0, .inr (9, [.int x1, .int x2, .int x3, .ref a1, .ref a2, .ref a3, .ref a4, .ref a5, .ref a6])), (a1, .inl (G 0, 10, .inl f1)), (a2, .inl (G 0, 10, .inl f2)), (a3, .inl (G 0, 10, .inl f3)), (a4, .inl (G 0, 6, .inl f4)), (a5, .inl (G 0, 6, .inl f5)), (a6, .inl (G 0, 6, .inl f6)), (o0, .inr (9, [.int y1, .int y2, .int y3, .ref c1, .ref c2, .ref c3, .ref c4, .ref c5, .ref c6])), (c1, .inl (G 0, 10, .inl z1)), (c2, .inl (G 0, 10, .inl z2)), (c3, .inl (G 0, 10, .inl z3)), (c4, .inl (G 0, 6, .inl z4)), (c5, .inl (G 0, 6, .inl z5)), (c6, .inl (G 0, 6, .inl z6))] s.heap.size = A at hD ⊢
  have hA : ∀ q : Nat, s.heap.size ≤ q → A q := fun q h => by rw [← hAe]; exact Or.inr h
  have hS : va_S A s.heap s.heap [] := va_S.rf
  have hl := lv_entry ([.ref h0, .ref o0]) (n := 2) (Nat.le_of_ble_eq_true rfl)
  rw [lg_entry_eq]
  generalize (lg_sl ([.ref h0, .ref o0]) ++ List.replicate (2 - (lg_sl ([.ref h0, .ref o0])).length) Slot.unset).toArray = ls at hl ⊢
  have hl : lv_has ls 2 [(0, .ref h0), (1, .ref o0)] := hl
  refine lv_aload_n hx hb dX9_copyOf_0 rfl (lv_at hl 0 rfl) ?_
  refine lv_aload_n hx hb dX9_copyOf_1 rfl (lv_at hl 1 rfl) ?_
  refine va_get (D := (dC, dI)) (ci := 9) (v := .int y1) (C := RX9) (T := TX9) (N := 9) hx hb hg inG9 hown hK.1 hP 7 rfl rfl 0 (by decide) (hg _ wt_56) (fun _ h9 => h9) rfl dX9_copyOf_2 ?_
  refine va_put (D := (dC, dI)) (ci := 9) (v := .int y1) (ty := .int) (C := RX9) (T := TX9) (N := 9) hx hb hg inG9 tyX9 tyX9_ok nmX9 hown hK.1 hP hD hS 0 rfl rfl 0 (by decide) (hg _ wt_56) (fun _ h9 => h9) rfl (by decide +kernel) rfl rfl (Nat.le_of_ble_eq_true rfl) dX9_copyOf_5 (fun H locs hP hD hS => ?_)
  have hP : va_P (dC, dI) vwCl [(h0, .inr (9, [.int y1, .int x2, .int x3, .ref a1, .ref a2, .ref a3, .ref a4, .ref a5, .ref a6])), (a1, .inl (G 0, 10, .inl f1)), (a2, .inl (G 0, 10, .inl f2)), (a3, .inl (G 0, 10, .inl f3)), (a4, .inl (G 0, 6, .inl f4)), (a5, .inl (G 0, 6, .inl f5)), (a6, .inl (G 0, 6, .inl f6)), (o0, .inr (9, [.int y1, .int y2, .int y3, .ref c1, .ref c2, .ref c3, .ref c4, .ref c5, .ref c6])), (c1, .inl (G 0, 10, .inl z1)), (c2, .inl (G 0, 10, .inl z2)), (c3, .inl (G 0, 10, .inl z3)), (c4, .inl (G 0, 6, .inl z4)), (c5, .inl (G 0, 6, .inl z5)), (c6, .inl (G 0, 6, .inl z6))] H := hP
  have hD : va_D A [(h0, .inr (9, [.int y1, .int x2, .int x3, .ref a1, .ref a2, .ref a3, .ref a4, .ref a5, .ref a6])), (a1, .inl (G 0, 10, .inl f1)), (a2, .inl (G 0, 10, .inl f2)), (a3, .inl (G 0, 10, .inl f3)), (a4, .inl (G 0, 6, .inl f4)), (a5, .inl (G 0, 6, .inl f5)), (a6, .inl (G 0, 6, .inl f6)), (o0, .inr (9, [.int y1, .int y2, .int y3, .ref c1, .ref c2, .ref c3, .ref c4, .ref c5, .ref c6])), (c1, .inl (G 0, 10, .inl z1)), (c2, .inl (G 0, 10, .inl z2)), (c3, .inl (G 0, 10, .inl z3)), (c4, .inl (G 0, 6, .inl z4)), (c5, .inl (G 0, 6, .inl z5)), (c6, .inl (G 0, 6, .inl z6))] := hD
  refine lv_aload_n hx hb dX9_copyOf_8 rfl (lv_at hl 0 rfl) ?_
  refine lv_aload_n hx hb dX9_copyOf_9 rfl (lv_at hl 1 rfl) ?_
  refine va_get (D := (dC, dI)) (ci := 9) (v := .int y2) (C := RX9) (T := TX9) (N := 9) hx hb hg inG9 hown hK.1 hP 7 rfl rfl 1 (by decide) (hg _ wt_62) (fun _ h9 => h9) rfl dX9_copyOf_10 ?_
  refine va_put (D := (dC, dI)) (ci := 9) (v := .int y2) (ty := .int) (C := RX9) (T := TX9) (N := 9) hx hb hg inG9 tyX9 tyX9_ok nmX9 hown hK.1 hP hD hS 0 rfl rfl 1 (by decide) (hg _ wt_62) (fun _ h9 => h9) rfl (by decide +kernel) rfl rfl (Nat.le_of_ble_eq_true rfl) dX9_copyOf_13 (fun H locs hP hD hS => ?_)
  have hP : va_P (dC, dI) vwCl [(h0, .inr (9, [.int y1, .int y2, .int x3, .ref a1, .ref a2, .ref a3, .ref a4, .ref a5, .ref a6])), (a1, .inl (G 0, 10, .inl f1)), (a2, .inl (G 0, 10, .inl f2)), (a3, .inl (G 0, 10, .inl f3)), (a4, .inl (G 0, 6, .inl f4)), (a5, .inl (G 0, 6, .inl f5)), (a6, .inl (G 0, 6, .inl f6)), (o0, .inr (9, [.int y1, .int y2, .int y3, .ref c1, .ref c2, .ref c3, .ref c4, .ref c5, .ref c6])), (c1, .inl (G 0, 10, .inl z1)), (c2, .inl (G 0, 10, .inl z2)), (c3, .inl (G 0, 10, .inl z3)), (c4, .inl (G 0, 6, .inl z4)), (c5, .inl (G 0, 6, .inl z5)), (c6, .inl (G 0, 6, .inl z6))] H := hP
  have hD : va_D A [(h0, .inr (9, [.int y1, .int y2, .int x3, .ref a1, .ref a2, .ref a3, .ref a4, .ref a5, .ref a6])), (a1, .inl (G 0, 10, .inl f1)), (a2, .inl (G 0, 10, .inl f2)), (a3, .inl (G 0, 10, .inl f3)), (a4, .inl (G 0, 6, .inl f4)), (a5, .inl (G 0, 6, .inl f5)), (a6, .inl (G 0, 6, .inl f6)), (o0, .inr (9, [.int y1, .int y2, .int y3, .ref c1, .ref c2, .ref c3, .ref c4, .ref c5, .ref c6])), (c1, .inl (G 0, 10, .inl z1)), (c2, .inl (G 0, 10, .inl z2)), (c3, .inl (G 0, 10, .inl z3)), (c4, .inl (G 0, 6, .inl z4)), (c5, .inl (G 0, 6, .inl z5)), (c6, .inl (G 0, 6, .inl z6))] := hD
  refine lv_aload_n hx hb dX9_copyOf_16 rfl (lv_at hl 0 rfl) ?_
  refine lv_aload_n hx hb dX9_copyOf_17 rfl (lv_at hl 1 rfl) ?_
  refine va_get (D := (dC, dI)) (ci := 9) (v := .int y3) (C := RX9) (T := TX9) (N := 9) hx hb hg inG9 hown hK.1 hP 7 rfl rfl 2 (by decide) (hg _ wt_66) (fun _ h9 => h9) rfl dX9_copyOf_18 ?_
  refine va_put (D := (dC, dI)) (ci := 9) (v := .int y3) (ty := .int) (C := RX9) (T := TX9) (N := 9) hx hb hg inG9 tyX9 tyX9_ok nmX9 hown hK.1 hP hD hS 0 rfl rfl 2 (by decide) (hg _ wt_66) (fun _ h9 => h9) rfl (by decide +kernel) rfl rfl (Nat.le_of_ble_eq_true rfl) dX9_copyOf_21 (fun H locs hP hD hS => ?_)
  have hP : va_P (dC, dI) vwCl [(h0, .inr (9, [.int y1, .int y2, .int y3, .ref a1, .ref a2, .ref a3, .ref a4, .ref a5, .ref a6])), (a1, .inl (G 0, 10, .inl f1)), (a2, .inl (G 0, 10, .inl f2)), (a3, .inl (G 0, 10, .inl f3)), (a4, .inl (G 0, 6, .inl f4)), (a5, .inl (G 0, 6, .inl f5)), (a6, .inl (G 0, 6, .inl f6)), (o0, .inr (9, [.int y1, .int y2, .int y3, .ref c1, .ref c2, .ref c3, .ref c4, .ref c5, .ref c6])), (c1, .inl (G 0, 10, .inl z1)), (c2, .inl (G 0, 10, .inl z2)), (c3, .inl (G 0, 10, .inl z3)), (c4, .inl (G 0, 6, .inl z4)), (c5, .inl (G 0, 6, .inl z5)), (c6, .inl (G 0, 6, .inl z6))] H := hP
  have hD : va_D A [(h0, .inr (9, [.int y1, .int y2, .int y3, .ref a1, .ref a2, .ref a3, .ref a4, .ref a5, .ref a6])), (a1, .inl (G 0, 10, .inl f1)), (a2, .inl (G 0, 10, .inl f2)), (a3, .inl (G 0, 10, .inl f3)), (a4, .inl (G 0, 6, .inl f4)), (a5, .inl (G 0, 6, .inl f5)), (a6, .inl (G 0, 6, .inl f6)), (o0, .inr (9, [.int y1, .int y2, .int y3, .ref c1, .ref c2, .ref c3, .ref c4, .ref c5, .ref c6])), (c1, .inl (G 0, 10, .inl z1)), (c2, .inl (G 0, 10, .inl z2)), (c3, .inl (G 0, 10, .inl z3)), (c4, .inl (G 0, 6, .inl z4)), (c5, .inl (G 0, 6, .inl z5)), (c6, .inl (G 0, 6, .inl z6))] := hD
  refine lv_aload_n hx hb dX9_copyOf_24 rfl (lv_at hl 1 rfl) ?_
  refine va_get (D := (dC, dI)) (ci := 9) (v := .ref c1) (C := RX9) (T := TX9) (N := 9) hx hb hg inG9 hown hK.1 hP 7 rfl rfl 3 (by decide) (hg _ wt_73) (fun _ h9 => h9) rfl dX9_copyOf_25 ?_
  refine lv_iconst (v := 0) hx hb dX9_copyOf_28 (by decide) ?_
  refine lv_aload_n hx hb dX9_copyOf_29 rfl (lv_at hl 0 rfl) ?_
  refine va_get (D := (dC, dI)) (ci := 9) (v := .ref a1) (C := RX9) (T := TX9) (N := 9) hx hb hg inG9 hown hK.1 hP 0 rfl rfl 3 (by decide) (hg _ wt_73) (fun _ h9 => h9) rfl dX9_copyOf_30 ?_
  refine lv_iconst (v := 0) hx hb dX9_copyOf_33 (by decide) ?_
  refine lv_bipush (v := 10) hx hb dX9_copyOf_34 (by decide) ?_
  refine va_copyi hx hb (by rw [hml]; exact hl.1.symm) hown (hg _ wt_511) (hg _ wt_513) (hg _ wt_512) (hg _ wt_18) hK.1 hP hD hS 8 1 0 0 rfl rfl rfl rfl rfl (by decide) (by decide) (by decide) (by decide) (by decide) (fun _ _ => rfl) (Nat.le_of_ble_eq_true rfl) (Nat.le_of_ble_eq_true rfl) dX9_copyOf_36 (fun H locs hP hD hS => ?_)
  have hP : va_P (dC, dI) vwCl [(h0, .inr (9, [.int y1, .int y2, .int y3, .ref a1, .ref a2, .ref a3, .ref a4, .ref a5, .ref a6])), (a1, .inl (G 0, 10, .inl (va_cpy z1 f1 0 0 10))), (a2, .inl (G 0, 10, .inl f2)), (a3, .inl (G 0, 10, .inl f3)), (a4, .inl (G 0, 6, .inl f4)), (a5, .inl (G 0, 6, .inl f5)), (a6, .inl (G 0, 6, .inl f6)), (o0, .inr (9, [.int y1, .int y2, .int y3, .ref c1, .ref c2, .ref c3, .ref c4, .ref c5, .ref c6])), (c1, .inl (G 0, 10, .inl z1)), (c2, .inl (G 0, 10, .inl z2)), (c3, .inl (G 0, 10, .inl z3)), (c4, .inl (G 0, 6, .inl z4)), (c5, .inl (G 0, 6, .inl z5)), (c6, .inl (G 0, 6, .inl z6))] H := hP
  have hD : va_D A [(h0, .inr (9, [.int y1, .int y2, .int y3, .ref a1, .ref a2, .ref a3, .ref a4, .ref a5, .ref a6])), (a1, .inl (G 0, 10, .inl (va_cpy z1 f1 0 0 10))), (a2, .inl (G 0, 10, .inl f2)), (a3, .inl (G 0, 10, .inl f3)), (a4, .inl (G 0, 6, .inl f4)), (a5, .inl (G 0, 6, .inl f5)), (a6, .inl (G 0, 6, .inl f6)), (o0, .inr (9, [.int y1, .int y2, .int y3, .ref c1, .ref c2, .ref c3, .ref c4, .ref c5, .ref c6])), (c1, .inl (G 0, 10, .inl z1)), (c2, .inl (G 0, 10, .inl z2)), (c3, .inl (G 0, 10, .inl z3)), (c4, .inl (G 0, 6, .inl z4)), (c5, .inl (G 0, 6, .inl z5)), (c6, .inl (G 0, 6, .inl z6))] := hD
  refine lv_aload_n hx hb dX9_copyOf_39 rfl (lv_at hl 1 rfl) ?_
  refine va_get (D := (dC, dI)) (ci := 9) (v := .ref c2) (C := RX9) (T := TX9) (N := 9) hx hb hg inG9 hown hK.1 hP 7 rfl rfl 4 (by decide) (hg _ wt_75) (fun _ h9 => h9) rfl dX9_copyOf_40 ?_
  refine lv_iconst (v := 0) hx hb dX9_copyOf_43 (by decide) ?_
  refine lv_aload_n hx hb dX9_copyOf_44 rfl (lv_at hl 0 rfl) ?_
  refine va_get (D := (dC, dI)) (ci := 9) (v := .ref a2) (C := RX9) (T := TX9) (N := 9) hx hb hg inG9 hown hK.1 hP 0 rfl rfl 4 (by decide) (hg _ wt_75) (fun _ h9 => h9) rfl dX9_copyOf_45 ?_
  refine lv_iconst (v := 0) hx hb dX9_copyOf_48 (by decide) ?_
  refine lv_bipush (v := 10) hx hb dX9_copyOf_49 (by decide) ?_
  refine va_copyi hx hb (by rw [hml]; exact hl.1.symm) hown (hg _ wt_511) (hg _ wt_513) (hg _ wt_512) (hg _ wt_18) hK.1 hP hD hS 9 2 0 0 rfl rfl rfl rfl rfl (by decide) (by decide) (by decide) (by decide) (by decide) (fun _ _ => rfl) (Nat.le_of_ble_eq_true rfl) (Nat.le_of_ble_eq_true rfl) dX9_copyOf_51 (fun H locs hP hD hS => ?_)
  have hP : va_P (dC, dI) vwCl [(h0, .inr (9, [.int y1, .int y2, .int y3, .ref a1, .ref a2, .ref a3, .ref a4, .ref a5, .ref a6])), (a1, .inl (G 0, 10, .inl (va_cpy z1 f1 0 0 10))), (a2, .inl (G 0, 10, .inl (va_cpy z2 f2 0 0 10))), (a3, .inl (G 0, 10, .inl f3)), (a4, .inl (G 0, 6, .inl f4)), (a5, .inl (G 0, 6, .inl f5)), (a6, .inl (G 0, 6, .inl f6)), (o0, .inr (9, [.int y1, .int y2, .int y3, .ref c1, .ref c2, .ref c3, .ref c4, .ref c5, .ref c6])), (c1, .inl (G 0, 10, .inl z1)), (c2, .inl (G 0, 10, .inl z2)), (c3, .inl (G 0, 10, .inl z3)), (c4, .inl (G 0, 6, .inl z4)), (c5, .inl (G 0, 6, .inl z5)), (c6, .inl (G 0, 6, .inl z6))] H := hP
  have hD : va_D A [(h0, .inr (9, [.int y1, .int y2, .int y3, .ref a1, .ref a2, .ref a3, .ref a4, .ref a5, .ref a6])), (a1, .inl (G 0, 10, .inl (va_cpy z1 f1 0 0 10))), (a2, .inl (G 0, 10, .inl (va_cpy z2 f2 0 0 10))), (a3, .inl (G 0, 10, .inl f3)), (a4, .inl (G 0, 6, .inl f4)), (a5, .inl (G 0, 6, .inl f5)), (a6, .inl (G 0, 6, .inl f6)), (o0, .inr (9, [.int y1, .int y2, .int y3, .ref c1, .ref c2, .ref c3, .ref c4, .ref c5, .ref c6])), (c1, .inl (G 0, 10, .inl z1)), (c2, .inl (G 0, 10, .inl z2)), (c3, .inl (G 0, 10, .inl z3)), (c4, .inl (G 0, 6, .inl z4)), (c5, .inl (G 0, 6, .inl z5)), (c6, .inl (G 0, 6, .inl z6))] := hD
  refine lv_aload_n hx hb dX9_copyOf_54 rfl (lv_at hl 1 rfl) ?_
  refine va_get (D := (dC, dI)) (ci := 9) (v := .ref c3) (C := RX9) (T := TX9) (N := 9) hx hb hg inG9 hown hK.1 hP 7 rfl rfl 5 (by decide) (hg _ wt_77) (fun _ h9 => h9) rfl dX9_copyOf_55 ?_
  refine lv_iconst (v := 0) hx hb dX9_copyOf_58 (by decide) ?_
  refine lv_aload_n hx hb dX9_copyOf_59 rfl (lv_at hl 0 rfl) ?_
  refine va_get (D := (dC, dI)) (ci := 9) (v := .ref a3) (C := RX9) (T := TX9) (N := 9) hx hb hg inG9 hown hK.1 hP 0 rfl rfl 5 (by decide) (hg _ wt_77) (fun _ h9 => h9) rfl dX9_copyOf_60 ?_
  refine lv_iconst (v := 0) hx hb dX9_copyOf_63 (by decide) ?_
  refine lv_bipush (v := 10) hx hb dX9_copyOf_64 (by decide) ?_
  refine va_copyi hx hb (by rw [hml]; exact hl.1.symm) hown (hg _ wt_511) (hg _ wt_513) (hg _ wt_512) (hg _ wt_18) hK.1 hP hD hS 10 3 0 0 rfl rfl rfl rfl rfl (by decide) (by decide) (by decide) (by decide) (by decide) (fun _ _ => rfl) (Nat.le_of_ble_eq_true rfl) (Nat.le_of_ble_eq_true rfl) dX9_copyOf_66 (fun H locs hP hD hS => ?_)
  have hP : va_P (dC, dI) vwCl [(h0, .inr (9, [.int y1, .int y2, .int y3, .ref a1, .ref a2, .ref a3, .ref a4, .ref a5, .ref a6])), (a1, .inl (G 0, 10, .inl (va_cpy z1 f1 0 0 10))), (a2, .inl (G 0, 10, .inl (va_cpy z2 f2 0 0 10))), (a3, .inl (G 0, 10, .inl (va_cpy z3 f3 0 0 10))), (a4, .inl (G 0, 6, .inl f4)), (a5, .inl (G 0, 6, .inl f5)), (a6, .inl (G 0, 6, .inl f6)), (o0, .inr (9, [.int y1, .int y2, .int y3, .ref c1, .ref c2, .ref c3, .ref c4, .ref c5, .ref c6])), (c1, .inl (G 0, 10, .inl z1)), (c2, .inl (G 0, 10, .inl z2)), (c3, .inl (G 0, 10, .inl z3)), (c4, .inl (G 0, 6, .inl z4)), (c5, .inl (G 0, 6, .inl z5)), (c6, .inl (G 0, 6, .inl z6))] H := hP
  have hD : va_D A [(h0, .inr (9, [.int y1, .int y2, .int y3, .ref a1, .ref a2, .ref a3, .ref a4, .ref a5, .ref a6])), (a1, .inl (G 0, 10, .inl (va_cpy z1 f1 0 0 10))), (a2, .inl (G 0, 10, .inl (va_cpy z2 f2 0 0 10))), (a3, .inl (G 0, 10, .inl (va_cpy z3 f3 0 0 10))), (a4, .inl (G 0, 6, .inl f4)), (a5, .inl (G 0, 6, .inl f5)), (a6, .inl (G 0, 6, .inl f6)), (o0, .inr (9, [.int y1, .int y2, .int y3, .ref c1, .ref c2, .ref c3, .ref c4, .ref c5, .ref c6])), (c1, .inl (G 0, 10, .inl z1)), (c2, .inl (G 0, 10, .inl z2)), (c3, .inl (G 0, 10, .inl z3)), (c4, .inl (G 0, 6, .inl z4)), (c5, .inl (G 0, 6, .inl z5)), (c6, .inl (G 0, 6, .inl z6))] := hD
  refine lv_aload_n hx hb dX9_copyOf_69 rfl (lv_at hl 1 rfl) ?_
  refine va_get (D := (dC, dI)) (ci := 9) (v := .ref c4) (C := RX9) (T := TX9) (N := 9) hx hb hg inG9 hown hK.1 hP 7 rfl rfl 6 (by decide) (hg _ wt_80) (fun _ h9 => h9) rfl dX9_copyOf_70 ?_
  refine lv_iconst (v := 0) hx hb dX9_copyOf_73 (by decide) ?_
  refine lv_aload_n hx hb dX9_copyOf_74 rfl (lv_at hl 0 rfl) ?_
  refine va_get (D := (dC, dI)) (ci := 9) (v := .ref a4) (C := RX9) (T := TX9) (N := 9) hx hb hg inG9 hown hK.1 hP 0 rfl rfl 6 (by decide) (hg _ wt_80) (fun _ h9 => h9) rfl dX9_copyOf_75 ?_
  refine lv_iconst (v := 0) hx hb dX9_copyOf_78 (by decide) ?_
  refine lv_bipush (v := 6) hx hb dX9_copyOf_79 (by decide) ?_
  refine va_copyi hx hb (by rw [hml]; exact hl.1.symm) hown (hg _ wt_511) (hg _ wt_513) (hg _ wt_512) (hg _ wt_18) hK.1 hP hD hS 11 4 0 0 rfl rfl rfl rfl rfl (by decide) (by decide) (by decide) (by decide) (by decide) (fun _ _ => rfl) (Nat.le_of_ble_eq_true rfl) (Nat.le_of_ble_eq_true rfl) dX9_copyOf_81 (fun H locs hP hD hS => ?_)
  have hP : va_P (dC, dI) vwCl [(h0, .inr (9, [.int y1, .int y2, .int y3, .ref a1, .ref a2, .ref a3, .ref a4, .ref a5, .ref a6])), (a1, .inl (G 0, 10, .inl (va_cpy z1 f1 0 0 10))), (a2, .inl (G 0, 10, .inl (va_cpy z2 f2 0 0 10))), (a3, .inl (G 0, 10, .inl (va_cpy z3 f3 0 0 10))), (a4, .inl (G 0, 6, .inl (va_cpy z4 f4 0 0 6))), (a5, .inl (G 0, 6, .inl f5)), (a6, .inl (G 0, 6, .inl f6)), (o0, .inr (9, [.int y1, .int y2, .int y3, .ref c1, .ref c2, .ref c3, .ref c4, .ref c5, .ref c6])), (c1, .inl (G 0, 10, .inl z1)), (c2, .inl (G 0, 10, .inl z2)), (c3, .inl (G 0, 10, .inl z3)), (c4, .inl (G 0, 6, .inl z4)), (c5, .inl (G 0, 6, .inl z5)), (c6, .inl (G 0, 6, .inl z6))] H := hP
  have hD : va_D A [(h0, .inr (9, [.int y1, .int y2, .int y3, .ref a1, .ref a2, .ref a3, .ref a4, .ref a5, .ref a6])), (a1, .inl (G 0, 10, .inl (va_cpy z1 f1 0 0 10))), (a2, .inl (G 0, 10, .inl (va_cpy z2 f2 0 0 10))), (a3, .inl (G 0, 10, .inl (va_cpy z3 f3 0 0 10))), (a4, .inl (G 0, 6, .inl (va_cpy z4 f4 0 0 6))), (a5, .inl (G 0, 6, .inl f5)), (a6, .inl (G 0, 6, .inl f6)), (o0, .inr (9, [.int y1, .int y2, .int y3, .ref c1, .ref c2, .ref c3, .ref c4, .ref c5, .ref c6])), (c1, .inl (G 0, 10, .inl z1)), (c2, .inl (G 0, 10, .inl z2)), (c3, .inl (G 0, 10, .inl z3)), (c4, .inl (G 0, 6, .inl z4)), (c5, .inl (G 0, 6, .inl z5)), (c6, .inl (G 0, 6, .inl z6))] := hD
  refine lv_aload_n hx hb dX9_copyOf_84 rfl (lv_at hl 1 rfl) ?_
  refine va_get (D := (dC, dI)) (ci := 9) (v := .ref c5) (C := RX9) (T := TX9) (N := 9) hx hb hg inG9 hown hK.1 hP 7 rfl rfl 7 (by decide) (hg _ wt_82) (fun _ h9 => h9) rfl dX9_copyOf_85 ?_
  refine lv_iconst (v := 0) hx hb dX9_copyOf_88 (by decide) ?_
  refine lv_aload_n hx hb dX9_copyOf_89 rfl (lv_at hl 0 rfl) ?_
  refine va_get (D := (dC, dI)) (ci := 9) (v := .ref a5) (C := RX9) (T := TX9) (N := 9) hx hb hg inG9 hown hK.1 hP 0 rfl rfl 7 (by decide) (hg _ wt_82) (fun _ h9 => h9) rfl dX9_copyOf_90 ?_
  refine lv_iconst (v := 0) hx hb dX9_copyOf_93 (by decide) ?_
  refine lv_bipush (v := 6) hx hb dX9_copyOf_94 (by decide) ?_
  refine va_copyi hx hb (by rw [hml]; exact hl.1.symm) hown (hg _ wt_511) (hg _ wt_513) (hg _ wt_512) (hg _ wt_18) hK.1 hP hD hS 12 5 0 0 rfl rfl rfl rfl rfl (by decide) (by decide) (by decide) (by decide) (by decide) (fun _ _ => rfl) (Nat.le_of_ble_eq_true rfl) (Nat.le_of_ble_eq_true rfl) dX9_copyOf_96 (fun H locs hP hD hS => ?_)
  have hP : va_P (dC, dI) vwCl [(h0, .inr (9, [.int y1, .int y2, .int y3, .ref a1, .ref a2, .ref a3, .ref a4, .ref a5, .ref a6])), (a1, .inl (G 0, 10, .inl (va_cpy z1 f1 0 0 10))), (a2, .inl (G 0, 10, .inl (va_cpy z2 f2 0 0 10))), (a3, .inl (G 0, 10, .inl (va_cpy z3 f3 0 0 10))), (a4, .inl (G 0, 6, .inl (va_cpy z4 f4 0 0 6))), (a5, .inl (G 0, 6, .inl (va_cpy z5 f5 0 0 6))), (a6, .inl (G 0, 6, .inl f6)), (o0, .inr (9, [.int y1, .int y2, .int y3, .ref c1, .ref c2, .ref c3, .ref c4, .ref c5, .ref c6])), (c1, .inl (G 0, 10, .inl z1)), (c2, .inl (G 0, 10, .inl z2)), (c3, .inl (G 0, 10, .inl z3)), (c4, .inl (G 0, 6, .inl z4)), (c5, .inl (G 0, 6, .inl z5)), (c6, .inl (G 0, 6, .inl z6))] H := hP
  have hD : va_D A [(h0, .inr (9, [.int y1, .int y2, .int y3, .ref a1, .ref a2, .ref a3, .ref a4, .ref a5, .ref a6])), (a1, .inl (G 0, 10, .inl (va_cpy z1 f1 0 0 10))), (a2, .inl (G 0, 10, .inl (va_cpy z2 f2 0 0 10))), (a3, .inl (G 0, 10, .inl (va_cpy z3 f3 0 0 10))), (a4, .inl (G 0, 6, .inl (va_cpy z4 f4 0 0 6))), (a5, .inl (G 0, 6, .inl (va_cpy z5 f5 0 0 6))), (a6, .inl (G 0, 6, .inl f6)), (o0, .inr (9, [.int y1, .int y2, .int y3, .ref c1, .ref c2, .ref c3, .ref c4, .ref c5, .ref c6])), (c1, .inl (G 0, 10, .inl z1)), (c2, .inl (G 0, 10, .inl z2)), (c3, .inl (G 0, 10, .inl z3)), (c4, .inl (G 0, 6, .inl z4)), (c5, .inl (G 0, 6, .inl z5)), (c6, .inl (G 0, 6, .inl z6))] := hD
  refine lv_aload_n hx hb dX9_copyOf_99 rfl (lv_at hl 1 rfl) ?_
  refine va_get (D := (dC, dI)) (ci := 9) (v := .ref c6) (C := RX9) (T := TX9) (N := 9) hx hb hg inG9 hown hK.1 hP 7 rfl rfl 8 (by decide) (hg _ wt_84) (fun _ h9 => h9) rfl dX9_copyOf_100 ?_
  refine lv_iconst (v := 0) hx hb dX9_copyOf_103 (by decide) ?_
  refine lv_aload_n hx hb dX9_copyOf_104 rfl (lv_at hl 0 rfl) ?_
  refine va_get (D := (dC, dI)) (ci := 9) (v := .ref a6) (C := RX9) (T := TX9) (N := 9) hx hb hg inG9 hown hK.1 hP 0 rfl rfl 8 (by decide) (hg _ wt_84) (fun _ h9 => h9) rfl dX9_copyOf_105 ?_
  refine lv_iconst (v := 0) hx hb dX9_copyOf_108 (by decide) ?_
  refine lv_bipush (v := 6) hx hb dX9_copyOf_109 (by decide) ?_
  refine va_copyi hx hb (by rw [hml]; exact hl.1.symm) hown (hg _ wt_511) (hg _ wt_513) (hg _ wt_512) (hg _ wt_18) hK.1 hP hD hS 13 6 0 0 rfl rfl rfl rfl rfl (by decide) (by decide) (by decide) (by decide) (by decide) (fun _ _ => rfl) (Nat.le_of_ble_eq_true rfl) (Nat.le_of_ble_eq_true rfl) dX9_copyOf_111 (fun H locs hP hD hS => ?_)
  have hP : va_P (dC, dI) vwCl [(h0, .inr (9, [.int y1, .int y2, .int y3, .ref a1, .ref a2, .ref a3, .ref a4, .ref a5, .ref a6])), (a1, .inl (G 0, 10, .inl (va_cpy z1 f1 0 0 10))), (a2, .inl (G 0, 10, .inl (va_cpy z2 f2 0 0 10))), (a3, .inl (G 0, 10, .inl (va_cpy z3 f3 0 0 10))), (a4, .inl (G 0, 6, .inl (va_cpy z4 f4 0 0 6))), (a5, .inl (G 0, 6, .inl (va_cpy z5 f5 0 0 6))), (a6, .inl (G 0, 6, .inl (va_cpy z6 f6 0 0 6))), (o0, .inr (9, [.int y1, .int y2, .int y3, .ref c1, .ref c2, .ref c3, .ref c4, .ref c5, .ref c6])), (c1, .inl (G 0, 10, .inl z1)), (c2, .inl (G 0, 10, .inl z2)), (c3, .inl (G 0, 10, .inl z3)), (c4, .inl (G 0, 6, .inl z4)), (c5, .inl (G 0, 6, .inl z5)), (c6, .inl (G 0, 6, .inl z6))] H := hP
  have hD : va_D A [(h0, .inr (9, [.int y1, .int y2, .int y3, .ref a1, .ref a2, .ref a3, .ref a4, .ref a5, .ref a6])), (a1, .inl (G 0, 10, .inl (va_cpy z1 f1 0 0 10))), (a2, .inl (G 0, 10, .inl (va_cpy z2 f2 0 0 10))), (a3, .inl (G 0, 10, .inl (va_cpy z3 f3 0 0 10))), (a4, .inl (G 0, 6, .inl (va_cpy z4 f4 0 0 6))), (a5, .inl (G 0, 6, .inl (va_cpy z5 f5 0 0 6))), (a6, .inl (G 0, 6, .inl (va_cpy z6 f6 0 0 6))), (o0, .inr (9, [.int y1, .int y2, .int y3, .ref c1, .ref c2, .ref c3, .ref c4, .ref c5, .ref c6])), (c1, .inl (G 0, 10, .inl z1)), (c2, .inl (G 0, 10, .inl z2)), (c3, .inl (G 0, 10, .inl z3)), (c4, .inl (G 0, 6, .inl z4)), (c5, .inl (G 0, 6, .inl z5)), (c6, .inl (G 0, 6, .inl z6))] := hD
  have hP9 := hP.sub (ws' := [(h0, .inr (9, [.int y1, .int y2, .int y3, .ref a1, .ref a2, .ref a3, .ref a4, .ref a5, .ref a6])), (a1, .inl (G 0, 10, .inl (va_cpy z1 f1 0 0 10))), (a2, .inl (G 0, 10, .inl (va_cpy z2 f2 0 0 10))), (a3, .inl (G 0, 10, .inl (va_cpy z3 f3 0 0 10))), (a4, .inl (G 0, 6, .inl (va_cpy z4 f4 0 0 6))), (a5, .inl (G 0, 6, .inl (va_cpy z5 f5 0 0 6))), (a6, .inl (G 0, 6, .inl (va_cpy z6 f6 0 0 6))), (o0, .inr (9, [.int y1, .int y2, .int y3, .ref c1, .ref c2, .ref c3, .ref c4, .ref c5, .ref c6])), (c1, .inl (G 0, 10, .inl z1)), (c2, .inl (G 0, 10, .inl z2)), (c3, .inl (G 0, 10, .inl z3)), (c4, .inl (G 0, 6, .inl z4)), (c5, .inl (G 0, 6, .inl z5)), (c6, .inl (G 0, 6, .inl z6))]) [0, 1, 2, 3, 4, 5, 6, 7, 8, 9, 10, 11, 12, 13] rfl
  have hD9 := hD.sub (ws' := [(h0, .inr (9, [.int y1, .int y2, .int y3, .ref a1, .ref a2, .ref a3, .ref a4, .ref a5, .ref a6])), (a1, .inl (G 0, 10, .inl (va_cpy z1 f1 0 0 10))), (a2, .inl (G 0, 10, .inl (va_cpy z2 f2 0 0 10))), (a3, .inl (G 0, 10, .inl (va_cpy z3 f3 0 0 10))), (a4, .inl (G 0, 6, .inl (va_cpy z4 f4 0 0 6))), (a5, .inl (G 0, 6, .inl (va_cpy z5 f5 0 0 6))), (a6, .inl (G 0, 6, .inl (va_cpy z6 f6 0 0 6))), (o0, .inr (9, [.int y1, .int y2, .int y3, .ref c1, .ref c2, .ref c3, .ref c4, .ref c5, .ref c6])), (c1, .inl (G 0, 10, .inl z1)), (c2, .inl (G 0, 10, .inl z2)), (c3, .inl (G 0, 10, .inl z3)), (c4, .inl (G 0, 6, .inl z4)), (c5, .inl (G 0, 6, .inl z5)), (c6, .inl (G 0, 6, .inl z6))]) [0, 1, 2, 3, 4, 5, 6, 7, 8, 9, 10, 11, 12, 13] (by decide) rfl
  refine W.widen (k := 0) (n := 0) (by omega) (by omega) ?_
  exact W.vret hx hb hr (fun t ht hW => ⟨⟨((va_cpy z1 f1 0 0 10), (va_cpy z2 f2 0 0 10), (va_cpy z3 f3 0 0 10), (va_cpy z4 f4 0 0 6), (va_cpy z5 f5 0 0 6), (va_cpy z6 f6 0 0 6)), rfl, trivial, ⟨by rw [ht]; exact hP9, hD9⟩⟩, hS.F ht⟩) hS.2.2 dX9_copyOf_114

set_option maxHeartbeats 1000000 in
set_option maxRecDepth 100000 in
theorem c_X9_exchange (l : Launch) (dC : Nat → ClassId) (dI : Nat → Nat → Nat) (G : Nat → ClassId) (sz : Nat) (h0 a1 a2 a3 a4 a5 a6 N B D : Nat) (i k : Int32) (f3 : Nat → Int32) (hN_N : N ≤ 10) (hB_B : B ≤ 6) (hD_D : 1 ≤ D ∧ D ≤ 9) : Met l yX9_exchange (Cond.code yX9_exchange cX9_exchange 4 none :: GT) ({ frames := 1, cells := 0, slots := 0, locals := 21 } : Room) (PcW [.ref h0, .int i, .int k] dC dI G [(h0, .inr (9, [.int (nI N), .int (nI B), .int (nI D), .ref a1, .ref a2, .ref a3, .ref a4, .ref a5, .ref a6])), (a3, .inl (G 0, 10, .inl f3))] sz) (va_Qv (fun (u : (Nat → Int32)) => match u with | u0 => True) (fun (u : (Nat → Int32)) (t : State) => match u with | u0 => va_P (dC, dI) vwCl [(h0, .inr (9, [.int (nI N), .int (nI B), .int (nI D), .ref a1, .ref a2, .ref a3, .ref a4, .ref a5, .ref a6])), (a3, .inl (G 0, 10, .inl u0))] t.heap ∧ va_D (va_A [(h0, .inr (9, [.int (nI N), .int (nI B), .int (nI D), .ref a1, .ref a2, .ref a3, .ref a4, .ref a5, .ref a6])), (a3, .inl (G 0, 10, .inl f3))] sz) [(h0, .inr (9, [.int (nI N), .int (nI B), .int (nI D), .ref a1, .ref a2, .ref a3, .ref a4, .ref a5, .ref a6])), (a3, .inl (G 0, 10, .inl u0))]) (va_A [(h0, .inr (9, [.int (nI N), .int (nI B), .int (nI D), .ref a1, .ref a2, .ref a3, .ref a4, .ref a5, .ref a6])), (a3, .inl (G 0, 10, .inl f3))] sz)) 0 0 (va_A [(h0, .inr (9, [.int (nI N), .int (nI B), .int (nI D), .ref a1, .ref a2, .ref a3, .ref a4, .ref a5, .ref a6])), (a3, .inl (G 0, 10, .inl f3))] sz) := by
  refine Met.ofW (cc := cX9_exchange) (maxL := 4) (ret := none) (by decide) rfl ?_
  intro p e s m args below meth c s₁ Bd hml hv
  obtain ⟨rfl, hsz, hP, hK, hD0⟩ := hv
  have hx := Bd.exec
  have hb := Bd.bytes
  have hr := Bd.returns
  have hg : ∀ w ∈ GT, w.before ([.ref h0, .int i, .int k] : List Value).toArray s = true := fun w h => atoms_spec (ws := Cond.code yX9_exchange cX9_exchange 4 none :: GT) Bd.pre w (List.mem_cons_of_mem _ h)
  have hown : s.vm.findClass RX9 = some m.cls := findClass_of_methodNamed Bd.named
  have hlocks := Bd.notSynchronized
  subst hsz
  have hD := hD0.self (sz := s.heap.size)
  generalize hAe : va_A [(h0, .inr (9, [.int (nI N), .int (nI B), .int (nI D), .ref a1, .ref a2, .ref a3, .ref a4, .ref a5, .ref a6])), (a3, .inl (G 0, 10, .inl f3))] s.heap.size = A at hD ⊢
  have hA : ∀ q : Nat, s.heap.size ≤ q → A q := fun q h => by rw [← hAe]; exact Or.inr h
  have hS : va_S A s.heap s.heap [] := va_S.rf
  have hl := lv_entry ([.ref h0, .int i, .int k]) (n := 4) (Nat.le_of_ble_eq_true rfl)
  rw [lg_entry_eq]
  generalize (lg_sl ([.ref h0, .int i, .int k]) ++ List.replicate (4 - (lg_sl ([.ref h0, .int i, .int k])).length) Slot.unset).toArray = ls at hl ⊢
  have hl : lv_has ls 4 [(0, .ref h0), (1, .int i), (2, .int k)] := hl
  refine lv_aload_n hx hb dX9_exchange_0 rfl (lv_at hl 0 rfl) ?_
  refine lv_iload_n hx hb dX9_exchange_1 rfl (lv_at hl 1 rfl) ?_
  have hPc := hP.sub (ws' := [(h0, .inr (9, [.int (nI N), .int (nI B), .int (nI D), .ref a1, .ref a2, .ref a3, .ref a4, .ref a5, .ref a6]))]) [0] rfl
  refine va_calli (va_runV (As := [.int i]) (rest := []) ⟨hx, hb, hml, hown, hg⟩ (c_X9_hasStretch l dC dI G _ h0 a1 a2 a3 a4 a5 a6 N B D i (by have t_n0 : (nI N).toInt = (N : Int) := nI_toInt (by omega); have t_n1 : (nI B).toInt = (B : Int) := nI_toInt (by omega); have t_n2 : (nI D).toInt = (D : Int) := nI_toInt (by omega); omega) (by have t_n0 : (nI N).toInt = (N : Int) := nI_toInt (by omega); have t_n1 : (nI B).toInt = (B : Int) := nI_toInt (by omega); have t_n2 : (nI D).toInt = (D : Int) := nI_toInt (by omega); omega) (by have t_n0 : (nI N).toInt = (N : Int) := nI_toInt (by omega); have t_n1 : (nI B).toInt = (B : Int) := nI_toInt (by omega); have t_n2 : (nI D).toInt = (D : Int) := nI_toInt (by omega); omega)) (kwV hg mfX9_hasStretch wt_574 ⟨Nat.le_of_ble_eq_true rfl, Nat.le_of_ble_eq_true rfl⟩) (preVR hK hPc (ci := 9) rfl rfl) rfl rfl hl.1 rfl (lv_room (Nat.le_of_ble_eq_true rfl)) dX9_exchange_2 ⟨Nat.le_of_ble_eq_true rfl, Nat.le_of_ble_eq_true rfl⟩) hS (fun q h1 h2 => absurd h2 (Nat.not_le.mpr h1)) (fun q h => hA q (Nat.le_trans hS.1 h)) (fun r1 ur1 t H1 locs ht hvm w2 hB hz1 hk1 hS => ?_)
  have hP := keepR hP hk1
  obtain ⟨w2, w2x⟩ := w2
  try simp only [l_ii, show (0 : Int32).toInt = 0 from by decide] at w2
  try rw [nI_toInt (n := N) (by omega)] at w2
  subst w2
  refine lv_if_eq (tgt := 42) hx hb dX9_exchange_5 (by decide) (fun c3 => ?_) (fun c3 => ?_)
  · skip
    have b4 := if10_n c3
    have hP9 := hP.sub (ws' := [(h0, .inr (9, [.int (nI N), .int (nI B), .int (nI D), .ref a1, .ref a2, .ref a3, .ref a4, .ref a5, .ref a6])), (a3, .inl (G 0, 10, .inl f3))]) [0, 1] rfl
    have hD9 := hD.sub (ws' := [(h0, .inr (9, [.int (nI N), .int (nI B), .int (nI D), .ref a1, .ref a2, .ref a3, .ref a4, .ref a5, .ref a6])), (a3, .inl (G 0, 10, .inl f3))]) [0, 1] (by decide) rfl
    refine W.widen (k := 0) (n := 0) (by omega) (by omega) ?_
    exact W.vret hx hb hr (fun t ht hW => ⟨⟨f3, rfl, trivial, ⟨by rw [ht]; exact hP9, hD9⟩⟩, hS.F ht⟩) hS.2.2 dX9_exchange_42
  · skip
    have b5 := if10_p c3
    refine lv_aload_n hx hb dX9_exchange_8 rfl (lv_at hl 0 rfl) ?_
    refine lv_iload_n hx hb dX9_exchange_9 rfl (lv_at hl 2 rfl) ?_
    have hPc := hP.sub (ws' := [(h0, .inr (9, [.int (nI N), .int (nI B), .int (nI D), .ref a1, .ref a2, .ref a3, .ref a4, .ref a5, .ref a6]))]) [0] rfl
    refine va_calli (va_runV (As := [.int k]) (rest := []) ⟨hx, hb, hml, hown, hg⟩ (c_X9_hasStretch l dC dI G _ h0 a1 a2 a3 a4 a5 a6 N B D k (by have t_b5 := b5; have t_n0 : (nI N).toInt = (N : Int) := nI_toInt (by omega); have t_n1 : (nI B).toInt = (B : Int) := nI_toInt (by omega); have t_n2 : (nI D).toInt = (D : Int) := nI_toInt (by omega); omega) (by have t_b5 := b5; have t_n0 : (nI N).toInt = (N : Int) := nI_toInt (by omega); have t_n1 : (nI B).toInt = (B : Int) := nI_toInt (by omega); have t_n2 : (nI D).toInt = (D : Int) := nI_toInt (by omega); omega) (by have t_b5 := b5; have t_n0 : (nI N).toInt = (N : Int) := nI_toInt (by omega); have t_n1 : (nI B).toInt = (B : Int) := nI_toInt (by omega); have t_n2 : (nI D).toInt = (D : Int) := nI_toInt (by omega); omega)) (kwV hg mfX9_hasStretch wt_574 ⟨Nat.le_of_ble_eq_true rfl, Nat.le_of_ble_eq_true rfl⟩) (preVR hK hPc (ci := 9) rfl rfl) rfl rfl hl.1 rfl (lv_room (Nat.le_of_ble_eq_true rfl)) dX9_exchange_10 ⟨Nat.le_of_ble_eq_true rfl, Nat.le_of_ble_eq_true rfl⟩) hS (fun q h1 h2 => absurd h2 (Nat.not_le.mpr h1)) (fun q h => hA q (Nat.le_trans hS.1 h)) (fun r6 ur6 t H1 locs ht hvm w7 hB hz1 hk1 hS => ?_)
    have hP := keepR hP hk1
    obtain ⟨w7, w7x⟩ := w7
    try simp only [l_ii, show (0 : Int32).toInt = 0 from by decide] at w7
    try rw [nI_toInt (n := N) (by omega)] at w7
    subst w7
    refine lv_if_eq (tgt := 42) hx hb dX9_exchange_13 (by decide) (fun c8 => ?_) (fun c8 => ?_)
    · skip
      have b9 := if10_n c8
      have hP9 := hP.sub (ws' := [(h0, .inr (9, [.int (nI N), .int (nI B), .int (nI D), .ref a1, .ref a2, .ref a3, .ref a4, .ref a5, .ref a6])), (a3, .inl (G 0, 10, .inl f3))]) [0, 1] rfl
      have hD9 := hD.sub (ws' := [(h0, .inr (9, [.int (nI N), .int (nI B), .int (nI D), .ref a1, .ref a2, .ref a3, .ref a4, .ref a5, .ref a6])), (a3, .inl (G 0, 10, .inl f3))]) [0, 1] (by decide) rfl
      refine W.widen (k := 0) (n := 0) (by omega) (by omega) ?_
      exact W.vret hx hb hr (fun t ht hW => ⟨⟨f3, rfl, trivial, ⟨by rw [ht]; exact hP9, hD9⟩⟩, hS.F ht⟩) hS.2.2 dX9_exchange_42
    · skip
      have b10 := if10_p c8
      refine lv_aload_n hx hb dX9_exchange_16 rfl (lv_at hl 0 rfl) ?_
      refine va_get (D := (dC, dI)) (ci := 9) (v := .ref a3) (C := RX9) (T := TX9) (N := 9) hx hb hg inG9 hown hK.1 hP 0 rfl rfl 5 (by decide) (hg _ wt_77) (fun _ h9 => h9) rfl dX9_exchange_17 ?_
      refine lv_iload_n hx hb dX9_exchange_20 rfl (lv_at hl 1 rfl) ?_
      refine va_iald hx hb hK.1 hP 1 0 rfl rfl (vp_in_iff.mpr (by have t_b5 := b5; have t_b10 := b10; have t_n0 : (nI N).toInt = (N : Int) := nI_toInt (by omega); have t_n1 : (nI B).toInt = (B : Int) := nI_toInt (by omega); have t_n2 : (nI D).toInt = (D : Int) := nI_toInt (by omega); constructor <;> omega)) dX9_exchange_21 ?_
      refine lv_istore_n (lv' := [(3, .int (f3 i.toNatClampNeg)), (0, .ref h0), (1, .int i), (2, .int k)]) hx hb dX9_exchange_22 rfl hl (by decide) rfl (fun ls hl => ?_)
      refine lv_aload_n hx hb dX9_exchange_23 rfl (lv_at hl 1 rfl) ?_
      refine va_get (D := (dC, dI)) (ci := 9) (v := .ref a3) (C := RX9) (T := TX9) (N := 9) hx hb hg inG9 hown hK.1 hP 0 rfl rfl 5 (by decide) (hg _ wt_77) (fun _ h9 => h9) rfl dX9_exchange_24 ?_
      refine lv_iload_n hx hb dX9_exchange_27 rfl (lv_at hl 2 rfl) ?_
      refine lv_aload_n hx hb dX9_exchange_28 rfl (lv_at hl 1 rfl) ?_
      refine va_get (D := (dC, dI)) (ci := 9) (v := .ref a3) (C := RX9) (T := TX9) (N := 9) hx hb hg inG9 hown hK.1 hP 0 rfl rfl 5 (by decide) (hg _ wt_77) (fun _ h9 => h9) rfl dX9_exchange_29 ?_
      refine lv_iload_n hx hb dX9_exchange_32 rfl (lv_at hl 3 rfl) ?_
      refine va_iald hx hb hK.1 hP 1 0 rfl rfl (vp_in_iff.mpr (by have t_b5 := b5; have t_b10 := b10; have t_n0 : (nI N).toInt = (N : Int) := nI_toInt (by omega); have t_n1 : (nI B).toInt = (B : Int) := nI_toInt (by omega); have t_n2 : (nI D).toInt = (D : Int) := nI_toInt (by omega); constructor <;> omega)) dX9_exchange_33 ?_
      refine va_iast hx hb hK.1 hP hD hS 1 0 rfl rfl (vp_in_iff.mpr (by have t_b5 := b5; have t_b10 := b10; have t_n0 : (nI N).toInt = (N : Int) := nI_toInt (by omega); have t_n1 : (nI B).toInt = (B : Int) := nI_toInt (by omega); have t_n2 : (nI D).toInt = (D : Int) := nI_toInt (by omega); constructor <;> omega)) dX9_exchange_34 (fun H locs hP hD hS => ?_)
      have hP : va_P (dC, dI) vwCl [(h0, .inr (9, [.int (nI N), .int (nI B), .int (nI D), .ref a1, .ref a2, .ref a3, .ref a4, .ref a5, .ref a6])), (a3, .inl (G 0, 10, .inl (upd f3 i.toNatClampNeg (f3 k.toNatClampNeg))))] H := hP
      have hD : va_D A [(h0, .inr (9, [.int (nI N), .int (nI B), .int (nI D), .ref a1, .ref a2, .ref a3, .ref a4, .ref a5, .ref a6])), (a3, .inl (G 0, 10, .inl (upd f3 i.toNatClampNeg (f3 k.toNatClampNeg))))] := hD
      refine lv_aload_n hx hb dX9_exchange_35 rfl (lv_at hl 1 rfl) ?_
      refine va_get (D := (dC, dI)) (ci := 9) (v := .ref a3) (C := RX9) (T := TX9) (N := 9) hx hb hg inG9 hown hK.1 hP 0 rfl rfl 5 (by decide) (hg _ wt_77) (fun _ h9 => h9) rfl dX9_exchange_36 ?_
      refine lv_iload_n hx hb dX9_exchange_39 rfl (lv_at hl 3 rfl) ?_
      refine lv_iload_n hx hb dX9_exchange_40 rfl (lv_at hl 0 rfl) ?_
      refine va_iast hx hb hK.1 hP hD hS 1 0 rfl rfl (vp_in_iff.mpr (by have t_b5 := b5; have t_b10 := b10; have t_n0 : (nI N).toInt = (N : Int) := nI_toInt (by omega); have t_n1 : (nI B).toInt = (B : Int) := nI_toInt (by omega); have t_n2 : (nI D).toInt = (D : Int) := nI_toInt (by omega); constructor <;> omega)) dX9_exchange_41 (fun H locs hP hD hS => ?_)
      have hP : va_P (dC, dI) vwCl [(h0, .inr (9, [.int (nI N), .int (nI B), .int (nI D), .ref a1, .ref a2, .ref a3, .ref a4, .ref a5, .ref a6])), (a3, .inl (G 0, 10, .inl (upd (upd f3 i.toNatClampNeg (f3 k.toNatClampNeg)) k.toNatClampNeg (f3 i.toNatClampNeg))))] H := hP
      have hD : va_D A [(h0, .inr (9, [.int (nI N), .int (nI B), .int (nI D), .ref a1, .ref a2, .ref a3, .ref a4, .ref a5, .ref a6])), (a3, .inl (G 0, 10, .inl (upd (upd f3 i.toNatClampNeg (f3 k.toNatClampNeg)) k.toNatClampNeg (f3 i.toNatClampNeg))))] := hD
      have hP9 := hP.sub (ws' := [(h0, .inr (9, [.int (nI N), .int (nI B), .int (nI D), .ref a1, .ref a2, .ref a3, .ref a4, .ref a5, .ref a6])), (a3, .inl (G 0, 10, .inl (upd (upd f3 i.toNatClampNeg (f3 k.toNatClampNeg)) k.toNatClampNeg (f3 i.toNatClampNeg))))]) [0, 1] rfl
      have hD9 := hD.sub (ws' := [(h0, .inr (9, [.int (nI N), .int (nI B), .int (nI D), .ref a1, .ref a2, .ref a3, .ref a4, .ref a5, .ref a6])), (a3, .inl (G 0, 10, .inl (upd (upd f3 i.toNatClampNeg (f3 k.toNatClampNeg)) k.toNatClampNeg (f3 i.toNatClampNeg))))]) [0, 1] (by decide) rfl
      refine W.widen (k := 0) (n := 0) (by omega) (by omega) ?_
      exact W.vret hx hb hr (fun t ht hW => ⟨⟨(upd (upd f3 i.toNatClampNeg (f3 k.toNatClampNeg)) k.toNatClampNeg (f3 i.toNatClampNeg)), rfl, trivial, ⟨by rw [ht]; exact hP9, hD9⟩⟩, hS.F ht⟩) hS.2.2 dX9_exchange_42

set_option maxHeartbeats 1000000 in
set_option maxRecDepth 100000 in
theorem c_X9_handOvers (l : Launch) (dC : Nat → ClassId) (dI : Nat → Nat → Nat) (G : Nat → ClassId) (sz : Nat) (h0 a1 a2 a3 a4 a5 a6 N B D : Nat) (f3 : Nat → Int32) (hN_N : N ≤ 10) (hB_B : B ≤ 6) (hD_D : 1 ≤ D ∧ D ≤ 9) : Met l yX9_handOvers (Cond.code yX9_handOvers cX9_handOvers 3 (some .int) :: GT) ({ frames := 0, cells := 0, slots := 0, locals := 0 } : Room) (PcR [.ref h0] dC dI G [(h0, .inr (9, [.int (nI N), .int (nI B), .int (nI D), .ref a1, .ref a2, .ref a3, .ref a4, .ref a5, .ref a6])), (a3, .inl (G 0, 10, .inl f3))] sz) (va_Qi (fun (r : Int32) (u : Unit) => match u with | _ => (True) ∧ True) (fun _ _ => True) (fun q : Nat => sz ≤ q)) 0 0 (fun q : Nat => sz ≤ q) := by
  refine Met.ofW (cc := cX9_handOvers) (maxL := 3) (ret := (some .int)) (by decide) rfl ?_
  intro p e s m args below meth c s₁ Bd hml hv
  obtain ⟨rfl, hsz, hP, hK⟩ := hv
  have hx := Bd.exec
  have hb := Bd.bytes
  have hr := Bd.returns
  have hg : ∀ w ∈ GT, w.before ([.ref h0] : List Value).toArray s = true := fun w h => atoms_spec (ws := Cond.code yX9_handOvers cX9_handOvers 3 (some .int) :: GT) Bd.pre w (List.mem_cons_of_mem _ h)
  have hown : s.vm.findClass RX9 = some m.cls := findClass_of_methodNamed Bd.named
  have hlocks := Bd.notSynchronized
  subst hsz
  have hA : ∀ q : Nat, s.heap.size ≤ q → (fun q : Nat => s.heap.size ≤ q) q := fun _ h => h
  have hS : va_S (fun q : Nat => s.heap.size ≤ q) s.heap s.heap [] := va_S.rf
  have hl := lv_entry ([.ref h0]) (n := 3) (Nat.le_of_ble_eq_true rfl)
  rw [lg_entry_eq]
  generalize (lg_sl ([.ref h0]) ++ List.replicate (3 - (lg_sl ([.ref h0])).length) Slot.unset).toArray = ls at hl ⊢
  have hl : lv_has ls 3 [(0, .ref h0)] := hl
  refine lv_iconst (v := 0) hx hb dX9_handOvers_0 (by decide) ?_
  refine lv_istore_n (lv' := [(1, .int 0), (0, .ref h0)]) hx hb dX9_handOvers_1 rfl hl (by decide) rfl (fun ls hl => ?_)
  refine lv_iconst (v := 1) hx hb dX9_handOvers_2 (by decide) ?_
  refine lv_istore_n (lv' := [(2, .int 1), (1, .int 0), (0, .ref h0)]) hx hb dX9_handOvers_3 rfl hl (by decide) rfl (fun ls hl => ?_)
  have loop4_3 : ∀ (nf j1 : Nat), 10 + 1 ≤ j1 + nf → j1 ≤ 10 → 1 ≤ j1 → ∀ (y2 : Int32) (H : Heap) (locs : List Loc), va_P (dC, dI) vwCl [(h0, .inr (9, [.int (nI N), .int (nI B), .int (nI D), .ref a1, .ref a2, .ref a3, .ref a4, .ref a5, .ref a6])), (a3, .inl (G 0, 10, .inl f3))] H → va_S (fun q : Nat => s.heap.size ≤ q) s.heap H locs → ∀ (ls : Array Slot), lv_has ls 3 [(2, .int (nI j1)), (1, .int y2), (0, .ref h0)] → W p l e (headSpec (Cond.code yX9_handOvers cX9_handOvers 3 (some .int) :: GT) ({ frames := 0, cells := 0, slots := 0, locals := 0 } : Room)).room s m ([.ref h0] : List Value).toArray below meth c H locs 0 0 (MQ below (va_Qi (fun (r : Int32) (u : Unit) => match u with | _ => (True) ∧ True) (fun _ _ => True) (fun q : Nat => s.heap.size ≤ q)) ([.ref h0] : List Value).toArray s 0 0 (fun q : Nat => s.heap.size ≤ q)) (F0 m 4 ls []) := by
    intro nf
    induction nf with
    | zero => intro j1 h1 h2; exact absurd h1 (by omega)
    | succ nf ih4_3 =>
      intro j1 hn4 hj5 hlo_j1 y2 H locs hP hS ls hl
      refine lv_iload_n hx hb dX9_handOvers_4 rfl (lv_at hl 0 rfl) ?_
      refine lv_aload_n hx hb dX9_handOvers_5 rfl (lv_at hl 2 rfl) ?_
      refine va_get (D := (dC, dI)) (ci := 9) (v := .int (nI N)) (C := RX9) (T := TX9) (N := 9) hx hb hg inG9 hown hK.1 hP 0 rfl rfl 0 (by decide) (hg _ wt_56) (fun _ h9 => h9) rfl dX9_handOvers_6 ?_
      refine lv_icmp_ge (tgt := 38) hx hb dX9_handOvers_9 (by decide) (fun c6 => ?_) (fun c6 => ?_)
      · skip
        have n7 : N ≤ j1 := by have t := leI c6; rw [nI_toInt (n := j1) (by omega)] at t; rw [nI_toInt (n := N) (by omega)] at t; omega
        refine lv_iload_n hx hb dX9_handOvers_38 rfl (lv_at hl 1 rfl) ?_
        have hpost : True := by
          trivial
        refine W.widen (k := 0) (n := 0) (by omega) (by omega) ?_
        exact W.iret (v := y2) hx hb hr (fun t ht hW => ⟨⟨y2, (), rfl, ⟨hpost, trivial⟩, trivial⟩, hS.F ht⟩) hS.2.2 dX9_handOvers_39
      · skip
        have n8 : j1 < N := by have t := nleI c6; rw [nI_toInt (n := j1) (by omega)] at t; rw [nI_toInt (n := N) (by omega)] at t; omega
        refine lv_aload_n hx hb dX9_handOvers_12 rfl (lv_at hl 2 rfl) ?_
        refine va_get (D := (dC, dI)) (ci := 9) (v := .ref a3) (C := RX9) (T := TX9) (N := 9) hx hb hg inG9 hown hK.1 hP 0 rfl rfl 5 (by decide) (hg _ wt_77) (fun _ h9 => h9) rfl dX9_handOvers_13 ?_
        refine lv_iload_n hx hb dX9_handOvers_16 rfl (lv_at hl 0 rfl) ?_
        refine va_iald hx hb hK.1 hP 1 0 rfl rfl (vp_in_nI (by have t_hj5 := hj5; have t_hlo_j1 := hlo_j1; have t_n8 := n8; have t_n0 : (nI N).toInt = (N : Int) := nI_toInt (by omega); have t_n1 : (nI B).toInt = (B : Int) := nI_toInt (by omega); have t_n2 : (nI D).toInt = (D : Int) := nI_toInt (by omega); have t_n3 : (nI j1).toInt = (j1 : Int) := nI_toInt (by omega); omega) (by decide)) dX9_handOvers_17 ?_
        refine lv_cg (y := f3 j1) (by rw [nI_clamp (by omega)]) ?_
        refine lv_aload_n hx hb dX9_handOvers_18 rfl (lv_at hl 2 rfl) ?_
        refine va_get (D := (dC, dI)) (ci := 9) (v := .ref a3) (C := RX9) (T := TX9) (N := 9) hx hb hg inG9 hown hK.1 hP 0 rfl rfl 5 (by decide) (hg _ wt_77) (fun _ h9 => h9) rfl dX9_handOvers_19 ?_
        refine lv_iload_n hx hb dX9_handOvers_22 rfl (lv_at hl 0 rfl) ?_
        refine lv_iconst (v := 1) hx hb dX9_handOvers_23 (by decide) ?_
        refine lv_isub hx hb dX9_handOvers_24 ?_
        refine lv_cg (y := nI (j1 - 1)) (by rw [show (1 : Int32) = nI 1 from rfl]; exact pk_sub (by have t_hj5 := hj5; have t_hlo_j1 := hlo_j1; have t_n8 := n8; have t_n0 : (nI N).toInt = (N : Int) := nI_toInt (by omega); have t_n1 : (nI B).toInt = (B : Int) := nI_toInt (by omega); have t_n2 : (nI D).toInt = (D : Int) := nI_toInt (by omega); have t_n3 : (nI j1).toInt = (j1 : Int) := nI_toInt (by omega); omega)) ?_
        refine va_iald hx hb hK.1 hP 1 0 rfl rfl (vp_in_nI (by have t_hj5 := hj5; have t_hlo_j1 := hlo_j1; have t_n8 := n8; have t_n0 : (nI N).toInt = (N : Int) := nI_toInt (by omega); have t_n1 : (nI B).toInt = (B : Int) := nI_toInt (by omega); have t_n2 : (nI D).toInt = (D : Int) := nI_toInt (by omega); have t_n3 : (nI j1).toInt = (j1 : Int) := nI_toInt (by omega); omega) (by decide)) dX9_handOvers_25 ?_
        refine lv_cg (y := f3 (j1 - 1)) (by rw [nI_clamp (by omega)]) ?_
        have cut32_10 : ∀ (y9 : Int32) (H : Heap) (locs : List Loc), va_P (dC, dI) vwCl [(h0, .inr (9, [.int (nI N), .int (nI B), .int (nI D), .ref a1, .ref a2, .ref a3, .ref a4, .ref a5, .ref a6])), (a3, .inl (G 0, 10, .inl f3))] H → va_S (fun q : Nat => s.heap.size ≤ q) s.heap H locs → ∀ (ls : Array Slot), lv_has ls 3 [(2, .int (nI j1)), (1, .int y9), (0, .ref h0)] → W p l e (headSpec (Cond.code yX9_handOvers cX9_handOvers 3 (some .int) :: GT) ({ frames := 0, cells := 0, slots := 0, locals := 0 } : Room)).room s m ([.ref h0] : List Value).toArray below meth c H locs 0 0 (MQ below (va_Qi (fun (r : Int32) (u : Unit) => match u with | _ => (True) ∧ True) (fun _ _ => True) (fun q : Nat => s.heap.size ≤ q)) ([.ref h0] : List Value).toArray s 0 0 (fun q : Nat => s.heap.size ≤ q)) (F0 m 32 ls []) := by
          intro y9 H locs hP hS ls hl
          refine lv_iinc (v := nI (j1 + 1)) (lv' := [(2, .int (nI (j1 + 1))), (1, .int y9), (0, .ref h0)]) hx hb dX9_handOvers_32 hl (k := 0) rfl (by rw [show Int32.ofInt 1 = nI 1 from by decide]; exact nI_add _ _) (by decide) rfl (fun ls hl => ?_)
          refine lv_goto (tgt := 4) hx hb dX9_handOvers_35 (by decide) ?_
          exact ih4_3 (j1 + 1) (by omega) (by omega) (by omega) y9 _ _ hP hS ls (lv_sub hl [0, 1, 2] rfl)
        refine lv_icmp_eq (tgt := 32) hx hb dX9_handOvers_26 (by decide) (fun c11 => ?_) (fun c11 => ?_)
        · skip
          exact cut32_10 y2 _ _ hP hS ls (lv_sub hl [0, 1, 2] rfl)
        · skip
          refine lv_iinc (v := y2 + 1) (lv' := [(1, .int (y2 + 1)), (2, .int (nI j1)), (0, .ref h0)]) hx hb dX9_handOvers_29 hl (k := 1) rfl (rfl) (by decide) rfl (fun ls hl => ?_)
          exact cut32_10 (y2 + 1) _ _ hP hS ls (lv_sub hl [1, 0, 2] rfl)
  exact loop4_3 (10 + 1) 1 (by omega) (by omega) (by omega) 0 _ _ hP hS ls (lv_sub hl [0, 1, 2] rfl)

set_option maxHeartbeats 1000000 in
set_option maxRecDepth 100000 in
theorem c_X6_fill (l : Launch) (dC : Nat → ClassId) (dI : Nat → Nat → Nat) (G : Nat → ClassId) (sz : Nat) (h0 la si ce fi se k : Nat) (x8 x9 i x1 : Int32) (fl fz : Nat → Int32) (rc : Nat → Nat) (F : Nat → Nat → Int32) (hk : k < 4) (hz : ∀ q : Nat, q < 4 → 0 ≤ (fz q).toInt ∧ (fz q).toInt ≤ 40) : Met l yX6_fill (Cond.code yX6_fill cX6_fill 4 none :: GT) ({ frames := 1, cells := 0, slots := 0, locals := 23 } : Room) (PcW [.ref h0, .int (nI k), .int i, .int x1] dC dI G (([(h0, .inr (6, [.ref la, .ref si, .ref ce, .int x8, .int x9, .ref fi, .ref se])), (la, .inl (G 0, 4, .inl fl)), (si, .inl (G 0, 4, .inl fz)), (ce, .inl (G 4, 4, .inr (.inr (.inr (.inr (fun ir => if ir < 4 then some (rc ir) else none))))))] : va_W) ++ ((((List.range 4).map (fun iq => (rc iq, .inl (G 0, 40, .inl (F iq))))) : va_W) ++ [])) sz) (va_Qv (fun (u : (Nat → Nat → Int32)) => match u with | u0 => True) (fun (u : (Nat → Nat → Int32)) (t : State) => match u with | u0 => va_P (dC, dI) vwCl (([(h0, .inr (6, [.ref la, .ref si, .ref ce, .int x8, .int x9, .ref fi, .ref se])), (la, .inl (G 0, 4, .inl fl)), (si, .inl (G 0, 4, .inl fz)), (ce, .inl (G 4, 4, .inr (.inr (.inr (.inr (fun ir => if ir < 4 then some (rc ir) else none))))))] : va_W) ++ ((((List.range 4).map (fun iq => (rc iq, .inl (G 0, 40, .inl (u0 iq))))) : va_W) ++ [])) t.heap ∧ va_D (va_A (([(h0, .inr (6, [.ref la, .ref si, .ref ce, .int x8, .int x9, .ref fi, .ref se])), (la, .inl (G 0, 4, .inl fl)), (si, .inl (G 0, 4, .inl fz)), (ce, .inl (G 4, 4, .inr (.inr (.inr (.inr (fun ir => if ir < 4 then some (rc ir) else none))))))] : va_W) ++ ((((List.range 4).map (fun iq => (rc iq, .inl (G 0, 40, .inl (F iq))))) : va_W) ++ [])) sz) (([(h0, .inr (6, [.ref la, .ref si, .ref ce, .int x8, .int x9, .ref fi, .ref se])), (la, .inl (G 0, 4, .inl fl)), (si, .inl (G 0, 4, .inl fz)), (ce, .inl (G 4, 4, .inr (.inr (.inr (.inr (fun ir => if ir < 4 then some (rc ir) else none))))))] : va_W) ++ ((((List.range 4).map (fun iq => (rc iq, .inl (G 0, 40, .inl (u0 iq))))) : va_W) ++ []))) (va_A (([(h0, .inr (6, [.ref la, .ref si, .ref ce, .int x8, .int x9, .ref fi, .ref se])), (la, .inl (G 0, 4, .inl fl)), (si, .inl (G 0, 4, .inl fz)), (ce, .inl (G 4, 4, .inr (.inr (.inr (.inr (fun ir => if ir < 4 then some (rc ir) else none))))))] : va_W) ++ ((((List.range 4).map (fun iq => (rc iq, .inl (G 0, 40, .inl (F iq))))) : va_W) ++ [])) sz)) 0 0 (va_A (([(h0, .inr (6, [.ref la, .ref si, .ref ce, .int x8, .int x9, .ref fi, .ref se])), (la, .inl (G 0, 4, .inl fl)), (si, .inl (G 0, 4, .inl fz)), (ce, .inl (G 4, 4, .inr (.inr (.inr (.inr (fun ir => if ir < 4 then some (rc ir) else none))))))] : va_W) ++ ((((List.range 4).map (fun iq => (rc iq, .inl (G 0, 40, .inl (F iq))))) : va_W) ++ [])) sz) := by
  refine Met.ofW (cc := cX6_fill) (maxL := 4) (ret := none) (by decide) rfl ?_
  intro p e s m args below meth c s₁ Bd hml hv
  obtain ⟨rfl, hsz, hP, hK, hD0⟩ := hv
  have hx := Bd.exec
  have hb := Bd.bytes
  have hr := Bd.returns
  have hg : ∀ w ∈ GT, w.before ([.ref h0, .int (nI k), .int i, .int x1] : List Value).toArray s = true := fun w h => atoms_spec (ws := Cond.code yX6_fill cX6_fill 4 none :: GT) Bd.pre w (List.mem_cons_of_mem _ h)
  have hown : s.vm.findClass RX6 = some m.cls := findClass_of_methodNamed Bd.named
  have hlocks := Bd.notSynchronized
  subst hsz
  have hD := hD0.self (sz := s.heap.size)
  generalize hAe : va_A (([(h0, .inr (6, [.ref la, .ref si, .ref ce, .int x8, .int x9, .ref fi, .ref se])), (la, .inl (G 0, 4, .inl fl)), (si, .inl (G 0, 4, .inl fz)), (ce, .inl (G 4, 4, .inr (.inr (.inr (.inr (fun ir => if ir < 4 then some (rc ir) else none))))))] : va_W) ++ ((((List.range 4).map (fun iq => (rc iq, .inl (G 0, 40, .inl (F iq))))) : va_W) ++ [])) s.heap.size = A at hD ⊢
  have hA : ∀ q : Nat, s.heap.size ≤ q → A q := fun q h => by rw [← hAe]; exact Or.inr h
  have hS : va_S A s.heap s.heap [] := va_S.rf
  have hl := lv_entry ([.ref h0, .int (nI k), .int i, .int x1]) (n := 4) (Nat.le_of_ble_eq_true rfl)
  rw [lg_entry_eq]
  generalize (lg_sl ([.ref h0, .int (nI k), .int i, .int x1]) ++ List.replicate (4 - (lg_sl ([.ref h0, .int (nI k), .int i, .int x1])).length) Slot.unset).toArray = ls at hl ⊢
  have hl : lv_has ls 4 [(0, .ref h0), (1, .int (nI k)), (2, .int i), (3, .int x1)] := hl
  have hzk := hz k hk
  have lii := l_ii i
  refine lv_aload_n hx hb dX6_fill_0 rfl (lv_at hl 0 rfl) ?_
  refine lv_iload_n hx hb dX6_fill_1 rfl (lv_at hl 1 rfl) ?_
  refine lv_iload_n hx hb dX6_fill_2 rfl (lv_at hl 2 rfl) ?_
  refine lv_i2l (v := i.toInt64) hx hb dX6_fill_3 rfl ?_
  have hPc := hP.sub (ws' := [(h0, .inr (6, [.ref la, .ref si, .ref ce, .int x8, .int x9, .ref fi, .ref se])), (la, .inl (G 0, 4, .inl fl)), (si, .inl (G 0, 4, .inl fz))]) [0, 1, 2] rfl
  refine va_calli (va_runV (As := [.int (nI k), .long i.toInt64]) (rest := []) ⟨hx, hb, hml, hown, hg⟩ (c_X6_faultAt l dC dI G _ h0 la si ce fi se k x8 x9 i.toInt64 fl fz (by have t_n0 : (nI k).toInt = (k : Int) := nI_toInt (by omega); omega)) (kwV hg mfX6_faultAt wt_846 ⟨Nat.le_of_ble_eq_true rfl, Nat.le_of_ble_eq_true rfl⟩) (preVR hK hPc (ci := 6) rfl rfl) rfl rfl hl.1 rfl (lv_room (Nat.le_of_ble_eq_true rfl)) dX6_fill_4 ⟨Nat.le_of_ble_eq_true rfl, Nat.le_of_ble_eq_true rfl⟩) hS (fun q h1 h2 => absurd h2 (Nat.not_le.mpr h1)) (fun q h => hA q (Nat.le_trans hS.1 h)) (fun r1 ur1 t H1 locs ht hvm w2 hB hz1 hk1 hS => ?_)
  have hP := keepR hP hk1
  obtain ⟨w2, w2x⟩ := w2
  have cut48_4 : ∀ (g3 : Nat → Nat → Int32) (H : Heap) (locs : List Loc), va_P (dC, dI) vwCl (([(h0, .inr (6, [.ref la, .ref si, .ref ce, .int x8, .int x9, .ref fi, .ref se])), (la, .inl (G 0, 4, .inl fl)), (si, .inl (G 0, 4, .inl fz)), (ce, .inl (G 4, 4, .inr (.inr (.inr (.inr (fun ir => if ir < 4 then some (rc ir) else none))))))] : va_W) ++ ((((List.range 4).map (fun iq => (rc iq, .inl (G 0, 40, .inl (g3 iq))))) : va_W) ++ [])) H → va_D A (([(h0, .inr (6, [.ref la, .ref si, .ref ce, .int x8, .int x9, .ref fi, .ref se])), (la, .inl (G 0, 4, .inl fl)), (si, .inl (G 0, 4, .inl fz)), (ce, .inl (G 4, 4, .inr (.inr (.inr (.inr (fun ir => if ir < 4 then some (rc ir) else none))))))] : va_W) ++ ((((List.range 4).map (fun iq => (rc iq, .inl (G 0, 40, .inl (g3 iq))))) : va_W) ++ [])) → va_S A s.heap H locs → ∀ (ls : Array Slot), lv_has ls 4 [(0, .ref h0), (1, .int (nI k)), (2, .int i), (3, .int x1)] → W p l e (headSpec (Cond.code yX6_fill cX6_fill 4 none :: GT) ({ frames := 1, cells := 0, slots := 0, locals := 23 } : Room)).room s m ([.ref h0, .int (nI k), .int i, .int x1] : List Value).toArray below meth c H locs 0 0 (MQ below (va_Qv (fun (u : (Nat → Nat → Int32)) => match u with | u0 => True) (fun (u : (Nat → Nat → Int32)) (t : State) => match u with | u0 => va_P (dC, dI) vwCl (([(h0, .inr (6, [.ref la, .ref si, .ref ce, .int x8, .int x9, .ref fi, .ref se])), (la, .inl (G 0, 4, .inl fl)), (si, .inl (G 0, 4, .inl fz)), (ce, .inl (G 4, 4, .inr (.inr (.inr (.inr (fun ir => if ir < 4 then some (rc ir) else none))))))] : va_W) ++ ((((List.range 4).map (fun iq => (rc iq, .inl (G 0, 40, .inl (u0 iq))))) : va_W) ++ [])) t.heap ∧ va_D A (([(h0, .inr (6, [.ref la, .ref si, .ref ce, .int x8, .int x9, .ref fi, .ref se])), (la, .inl (G 0, 4, .inl fl)), (si, .inl (G 0, 4, .inl fz)), (ce, .inl (G 4, 4, .inr (.inr (.inr (.inr (fun ir => if ir < 4 then some (rc ir) else none))))))] : va_W) ++ ((((List.range 4).map (fun iq => (rc iq, .inl (G 0, 40, .inl (u0 iq))))) : va_W) ++ []))) A) ([.ref h0, .int (nI k), .int i, .int x1] : List Value).toArray s 0 0 A) (F0 m 48 ls []) := by
    intro g3 H locs hP hD hS ls hl
    have hP9 := hP.sub (ws' := (([(h0, .inr (6, [.ref la, .ref si, .ref ce, .int x8, .int x9, .ref fi, .ref se])), (la, .inl (G 0, 4, .inl fl)), (si, .inl (G 0, 4, .inl fz)), (ce, .inl (G 4, 4, .inr (.inr (.inr (.inr (fun ir => if ir < 4 then some (rc ir) else none))))))] : va_W) ++ ((((List.range 4).map (fun iq => (rc iq, .inl (G 0, 40, .inl (g3 iq))))) : va_W) ++ []))) [0, 1, 2, 3, 4, 5, 6, 7] rfl
    have hD9 := hD.sub (ws' := (([(h0, .inr (6, [.ref la, .ref si, .ref ce, .int x8, .int x9, .ref fi, .ref se])), (la, .inl (G 0, 4, .inl fl)), (si, .inl (G 0, 4, .inl fz)), (ce, .inl (G 4, 4, .inr (.inr (.inr (.inr (fun ir => if ir < 4 then some (rc ir) else none))))))] : va_W) ++ ((((List.range 4).map (fun iq => (rc iq, .inl (G 0, 40, .inl (g3 iq))))) : va_W) ++ []))) [0, 1, 2, 3, 4, 5, 6, 7] (by decide) rfl
    refine W.widen (k := 0) (n := 0) (by omega) (by omega) ?_
    exact W.vret hx hb hr (fun t ht hW => ⟨⟨g3, rfl, trivial, ⟨by rw [ht]; exact hP9, hD9⟩⟩, hS.F ht⟩) hS.2.2 dX6_fill_48
  refine lv_if_ne (tgt := 48) hx hb dX6_fill_7 (by decide) (fun c5 => ?_) (fun c5 => ?_)
  · skip
    exact cut48_4 F _ _ hP hD hS ls (lv_sub hl [0, 1, 2, 3] rfl)
  · skip
    have b6 := fz0 w2 c5
    refine lv_aload_n hx hb dX6_fill_10 rfl (lv_at hl 0 rfl) ?_
    refine va_get (D := (dC, dI)) (ci := 6) (v := .ref ce) (C := RX6) (T := TX6) (N := 7) hx hb hg inG6 hown hK.1 hP 0 rfl rfl 2 (by decide) (hg _ wt_278) (fun _ h9 => h9) rfl dX6_fill_11 ?_
    refine lv_iload_n hx hb dX6_fill_14 rfl (lv_at hl 1 rfl) ?_
    refine va_aldA hx hb hK.1 hP 3 4 rfl rfl (vp_in_nI (by have t_b6 := b6; have t_n0 : (nI k).toInt = (k : Int) := nI_toInt (by omega); omega) (by decide)) dX6_fill_15 ?_
    refine lv_cgv (y := .ref (rc k)) (rowref (by have t_b6 := b6; have t_n0 : (nI k).toInt = (k : Int) := nI_toInt (by omega); omega) (by decide)) ?_
    refine lv_iload_n hx hb dX6_fill_16 rfl (lv_at hl 2 rfl) ?_
    refine lv_aload_n hx hb dX6_fill_17 rfl (lv_at hl 0 rfl) ?_
    refine va_get (D := (dC, dI)) (ci := 6) (v := .ref la) (C := RX6) (T := TX6) (N := 7) hx hb hg inG6 hown hK.1 hP 0 rfl rfl 0 (by decide) (hg _ wt_276) (fun _ h9 => h9) rfl dX6_fill_18 ?_
    refine lv_iload_n hx hb dX6_fill_21 rfl (lv_at hl 1 rfl) ?_
    refine va_iald hx hb hK.1 hP 1 0 rfl rfl (vp_in_nI (by have t_b6 := b6; have t_n0 : (nI k).toInt = (k : Int) := nI_toInt (by omega); omega) (by decide)) dX6_fill_22 ?_
    refine lv_cg (y := fl k) (by rw [nI_clamp (by omega)]) ?_
    have cut47_8 : ∀ (y7 : Int32) (H : Heap) (locs : List Loc), va_P (dC, dI) vwCl (([(h0, .inr (6, [.ref la, .ref si, .ref ce, .int x8, .int x9, .ref fi, .ref se])), (la, .inl (G 0, 4, .inl fl)), (si, .inl (G 0, 4, .inl fz)), (ce, .inl (G 4, 4, .inr (.inr (.inr (.inr (fun ir => if ir < 4 then some (rc ir) else none))))))] : va_W) ++ ((((List.range 4).map (fun iq => (rc iq, .inl (G 0, 40, .inl (F iq))))) : va_W) ++ [])) H → va_D A (([(h0, .inr (6, [.ref la, .ref si, .ref ce, .int x8, .int x9, .ref fi, .ref se])), (la, .inl (G 0, 4, .inl fl)), (si, .inl (G 0, 4, .inl fz)), (ce, .inl (G 4, 4, .inr (.inr (.inr (.inr (fun ir => if ir < 4 then some (rc ir) else none))))))] : va_W) ++ ((((List.range 4).map (fun iq => (rc iq, .inl (G 0, 40, .inl (F iq))))) : va_W) ++ [])) → va_S A s.heap H locs → ∀ (ls : Array Slot), lv_has ls 4 [(0, .ref h0), (1, .int (nI k)), (2, .int i), (3, .int x1)] → W p l e (headSpec (Cond.code yX6_fill cX6_fill 4 none :: GT) ({ frames := 1, cells := 0, slots := 0, locals := 23 } : Room)).room s m ([.ref h0, .int (nI k), .int i, .int x1] : List Value).toArray below meth c H locs 0 0 (MQ below (va_Qv (fun (u : (Nat → Nat → Int32)) => match u with | u0 => True) (fun (u : (Nat → Nat → Int32)) (t : State) => match u with | u0 => va_P (dC, dI) vwCl (([(h0, .inr (6, [.ref la, .ref si, .ref ce, .int x8, .int x9, .ref fi, .ref se])), (la, .inl (G 0, 4, .inl fl)), (si, .inl (G 0, 4, .inl fz)), (ce, .inl (G 4, 4, .inr (.inr (.inr (.inr (fun ir => if ir < 4 then some (rc ir) else none))))))] : va_W) ++ ((((List.range 4).map (fun iq => (rc iq, .inl (G 0, 40, .inl (u0 iq))))) : va_W) ++ [])) t.heap ∧ va_D A (([(h0, .inr (6, [.ref la, .ref si, .ref ce, .int x8, .int x9, .ref fi, .ref se])), (la, .inl (G 0, 4, .inl fl)), (si, .inl (G 0, 4, .inl fz)), (ce, .inl (G 4, 4, .inr (.inr (.inr (.inr (fun ir => if ir < 4 then some (rc ir) else none))))))] : va_W) ++ ((((List.range 4).map (fun iq => (rc iq, .inl (G 0, 40, .inl (u0 iq))))) : va_W) ++ []))) A) ([.ref h0, .int (nI k), .int i, .int x1] : List Value).toArray s 0 0 A) (F0 m 47 ls [.int y7, .int i, .ref (rc k)]) := by
      intro y7 H locs hP hD hS ls hl
      refine va_iastB (j := k) hx hb hK.1 hP hD hS 0 (by have t_b6 := b6; have t_n0 : (nI k).toInt = (k : Int) := nI_toInt (by omega); omega) rfl (vp_in_iff.mpr (by have t_b6 := b6; have t_n0 : (nI k).toInt = (k : Int) := nI_toInt (by omega); constructor <;> omega)) dX6_fill_47 (fun H locs hP hD hS => ?_)
      have hP : va_P (dC, dI) vwCl (([(h0, .inr (6, [.ref la, .ref si, .ref ce, .int x8, .int x9, .ref fi, .ref se])), (la, .inl (G 0, 4, .inl fl)), (si, .inl (G 0, 4, .inl fz)), (ce, .inl (G 4, 4, .inr (.inr (.inr (.inr (fun ir => if ir < 4 then some (rc ir) else none))))))] : va_W) ++ ((((List.range 4).map (fun iq => (rc iq, .inl (G 0, 40, .inl ((va_up F k (upd (F k) i.toNatClampNeg y7)) iq))))) : va_W) ++ [])) H := hP
      have hD : va_D A (([(h0, .inr (6, [.ref la, .ref si, .ref ce, .int x8, .int x9, .ref fi, .ref se])), (la, .inl (G 0, 4, .inl fl)), (si, .inl (G 0, 4, .inl fz)), (ce, .inl (G 4, 4, .inr (.inr (.inr (.inr (fun ir => if ir < 4 then some (rc ir) else none))))))] : va_W) ++ ((((List.range 4).map (fun iq => (rc iq, .inl (G 0, 40, .inl ((va_up F k (upd (F k) i.toNatClampNeg y7)) iq))))) : va_W) ++ [])) := hD
      exact cut48_4 (va_up F k (upd (F k) i.toNatClampNeg y7)) _ _ hP hD hS ls (lv_sub hl [0, 1, 2, 3] rfl)
    refine lv_if_ne (tgt := 31) hx hb dX6_fill_23 (by decide) (fun c9 => ?_) (fun c9 => ?_)
    · skip
      refine lv_aload_n hx hb dX6_fill_31 rfl (lv_at hl 0 rfl) ?_
      refine va_get (D := (dC, dI)) (ci := 6) (v := .ref la) (C := RX6) (T := TX6) (N := 7) hx hb hg inG6 hown hK.1 hP 0 rfl rfl 0 (by decide) (hg _ wt_276) (fun _ h9 => h9) rfl dX6_fill_32 ?_
      refine lv_iload_n hx hb dX6_fill_35 rfl (lv_at hl 1 rfl) ?_
      refine va_iald hx hb hK.1 hP 1 0 rfl rfl (vp_in_nI (by have t_b6 := b6; have t_c9 := neI c9; have : (0 : Int32).toInt = 0 := (by decide); have t_n0 : (nI k).toInt = (k : Int) := nI_toInt (by omega); omega) (by decide)) dX6_fill_36 ?_
      refine lv_cg (y := fl k) (by rw [nI_clamp (by omega)]) ?_
      refine lv_iconst (v := 1) hx hb dX6_fill_37 (by decide) ?_
      refine lv_icmp_ne (tgt := 46) hx hb dX6_fill_38 (by decide) (fun c10 => ?_) (fun c10 => ?_)
      · skip
        refine lv_iload_n hx hb dX6_fill_46 rfl (lv_at hl 3 rfl) ?_
        exact cut47_8 x1 _ _ hP hD hS ls (lv_sub hl [0, 1, 2, 3] rfl)
      · skip
        refine lv_iload_n hx hb dX6_fill_41 rfl (lv_at hl 3 rfl) ?_
        refine lv_i2s (v := _) hx hb dX6_fill_42 rfl ?_
        refine lv_topi (fun v11 ev11 => ?_)
        refine lv_goto (tgt := 47) hx hb dX6_fill_43 (by decide) ?_
        exact cut47_8 v11 _ _ hP hD hS ls (lv_sub hl [0, 1, 2, 3] rfl)
    · skip
      refine lv_iload_n hx hb dX6_fill_26 rfl (lv_at hl 3 rfl) ?_
      refine lv_i2b (v := _) hx hb dX6_fill_27 rfl ?_
      refine lv_topi (fun v12 ev12 => ?_)
      refine lv_goto (tgt := 47) hx hb dX6_fill_28 (by decide) ?_
      exact cut47_8 v12 _ _ hP hD hS ls (lv_sub hl [0, 1, 2, 3] rfl)

set_option maxHeartbeats 1000000 in
set_option maxRecDepth 100000 in
theorem c_X6_renew (l : Launch) (dC : Nat → ClassId) (dI : Nat → Nat → Nat) (G : Nat → ClassId) (sz : Nat) (h0 la si ce fi se k nn : Nat) (x8 x9 x1 : Int32) (fl fz : Nat → Int32) (rc : Nat → Nat) (F : Nat → Nat → Int32) (hk : k < 4) (hnn : nn ≤ 40) : Met l yX6_renew (Cond.code yX6_renew cX6_renew 5 none :: GT) ({ frames := 1, cells := 0, slots := 0, locals := 20 } : Room) (PcW [.ref h0, .int (nI k), .int x1, .int (nI nn)] dC dI G (([(h0, .inr (6, [.ref la, .ref si, .ref ce, .int x8, .int x9, .ref fi, .ref se])), (la, .inl (G 0, 4, .inl fl)), (si, .inl (G 0, 4, .inl fz)), (ce, .inl (G 4, 4, .inr (.inr (.inr (.inr (fun ir => if ir < 4 then some (rc ir) else none))))))] : va_W) ++ ((((List.range 4).map (fun iq => (rc iq, .inl (G 0, 40, .inl (F iq))))) : va_W) ++ [])) sz) (va_Qv (fun (u : (Nat → Nat → Int32) × (Nat → Int32) × (Nat → Int32)) => match u with | (u0, u1, u2) => u1 = upd fl k x1 ∧ u2 = upd fz k (nI nn)) (fun (u : (Nat → Nat → Int32) × (Nat → Int32) × (Nat → Int32)) (t : State) => match u with | (u0, u1, u2) => va_P (dC, dI) vwCl (([(h0, .inr (6, [.ref la, .ref si, .ref ce, .int x8, .int x9, .ref fi, .ref se])), (la, .inl (G 0, 4, .inl u1)), (si, .inl (G 0, 4, .inl u2)), (ce, .inl (G 4, 4, .inr (.inr (.inr (.inr (fun ir => if ir < 4 then some (rc ir) else none))))))] : va_W) ++ ((((List.range 4).map (fun iq => (rc iq, .inl (G 0, 40, .inl (u0 iq))))) : va_W) ++ [])) t.heap ∧ va_D (va_A (([(h0, .inr (6, [.ref la, .ref si, .ref ce, .int x8, .int x9, .ref fi, .ref se])), (la, .inl (G 0, 4, .inl fl)), (si, .inl (G 0, 4, .inl fz)), (ce, .inl (G 4, 4, .inr (.inr (.inr (.inr (fun ir => if ir < 4 then some (rc ir) else none))))))] : va_W) ++ ((((List.range 4).map (fun iq => (rc iq, .inl (G 0, 40, .inl (F iq))))) : va_W) ++ [])) sz) (([(h0, .inr (6, [.ref la, .ref si, .ref ce, .int x8, .int x9, .ref fi, .ref se])), (la, .inl (G 0, 4, .inl u1)), (si, .inl (G 0, 4, .inl u2)), (ce, .inl (G 4, 4, .inr (.inr (.inr (.inr (fun ir => if ir < 4 then some (rc ir) else none))))))] : va_W) ++ ((((List.range 4).map (fun iq => (rc iq, .inl (G 0, 40, .inl (u0 iq))))) : va_W) ++ []))) (va_A (([(h0, .inr (6, [.ref la, .ref si, .ref ce, .int x8, .int x9, .ref fi, .ref se])), (la, .inl (G 0, 4, .inl fl)), (si, .inl (G 0, 4, .inl fz)), (ce, .inl (G 4, 4, .inr (.inr (.inr (.inr (fun ir => if ir < 4 then some (rc ir) else none))))))] : va_W) ++ ((((List.range 4).map (fun iq => (rc iq, .inl (G 0, 40, .inl (F iq))))) : va_W) ++ [])) sz)) 0 0 (va_A (([(h0, .inr (6, [.ref la, .ref si, .ref ce, .int x8, .int x9, .ref fi, .ref se])), (la, .inl (G 0, 4, .inl fl)), (si, .inl (G 0, 4, .inl fz)), (ce, .inl (G 4, 4, .inr (.inr (.inr (.inr (fun ir => if ir < 4 then some (rc ir) else none))))))] : va_W) ++ ((((List.range 4).map (fun iq => (rc iq, .inl (G 0, 40, .inl (F iq))))) : va_W) ++ [])) sz) := by
  refine Met.ofW (cc := cX6_renew) (maxL := 5) (ret := none) (by decide) rfl ?_
  intro p e s m args below meth c s₁ Bd hml hv
  obtain ⟨rfl, hsz, hP, hK, hD0⟩ := hv
  have hx := Bd.exec
  have hb := Bd.bytes
  have hr := Bd.returns
  have hg : ∀ w ∈ GT, w.before ([.ref h0, .int (nI k), .int x1, .int (nI nn)] : List Value).toArray s = true := fun w h => atoms_spec (ws := Cond.code yX6_renew cX6_renew 5 none :: GT) Bd.pre w (List.mem_cons_of_mem _ h)
  have hown : s.vm.findClass RX6 = some m.cls := findClass_of_methodNamed Bd.named
  have hlocks := Bd.notSynchronized
  subst hsz
  have hD := hD0.self (sz := s.heap.size)
  generalize hAe : va_A (([(h0, .inr (6, [.ref la, .ref si, .ref ce, .int x8, .int x9, .ref fi, .ref se])), (la, .inl (G 0, 4, .inl fl)), (si, .inl (G 0, 4, .inl fz)), (ce, .inl (G 4, 4, .inr (.inr (.inr (.inr (fun ir => if ir < 4 then some (rc ir) else none))))))] : va_W) ++ ((((List.range 4).map (fun iq => (rc iq, .inl (G 0, 40, .inl (F iq))))) : va_W) ++ [])) s.heap.size = A at hD ⊢
  have hA : ∀ q : Nat, s.heap.size ≤ q → A q := fun q h => by rw [← hAe]; exact Or.inr h
  have hS : va_S A s.heap s.heap [] := va_S.rf
  have hl := lv_entry ([.ref h0, .int (nI k), .int x1, .int (nI nn)]) (n := 5) (Nat.le_of_ble_eq_true rfl)
  rw [lg_entry_eq]
  generalize (lg_sl ([.ref h0, .int (nI k), .int x1, .int (nI nn)]) ++ List.replicate (5 - (lg_sl ([.ref h0, .int (nI k), .int x1, .int (nI nn)])).length) Slot.unset).toArray = ls at hl ⊢
  have hl : lv_has ls 5 [(0, .ref h0), (1, .int (nI k)), (2, .int x1), (3, .int (nI nn))] := hl
  refine lv_iload_n hx hb dX6_renew_0 rfl (lv_at hl 1 rfl) ?_
  have hPc := hP.sub (ws' := []) [] rfl
  refine va_calli (va_runS (As := [.int (nI k)]) (rest := []) ⟨hx, hb, hml, hown, hg⟩ (c_X6_isSheet l dC dI G _ (nI k) ) (kwS hg mfX6_isSheet wt_833 ⟨Nat.le_of_ble_eq_true rfl, Nat.le_of_ble_eq_true rfl⟩) (preSR hK hPc) rfl rfl hl.1 rfl (lv_room (Nat.le_of_ble_eq_true rfl)) dX6_renew_1 ⟨Nat.le_of_ble_eq_true rfl, Nat.le_of_ble_eq_true rfl⟩) hS (fun q h1 h2 => absurd h2 (Nat.not_le.mpr h1)) (fun q h => hA q (Nat.le_trans hS.1 h)) (fun r1 ur1 t H1 locs ht hvm w2 hB hz1 hk1 hS => ?_)
  have hP := keepR hP hk1
  obtain ⟨w2, w2x⟩ := w2
  try simp only [l_ii, show (0 : Int32).toInt = 0 from by decide, show (4 : Int32).toInt = 4 from by decide] at w2
  try rw [nI_toInt (n := k) (by omega)] at w2
  have w2 : r1 = 1 := w2.trans (if_pos (by have t_n0 : (nI k).toInt = (k : Int) := nI_toInt (by omega); have t_n1 : (nI nn).toInt = (nn : Int) := nI_toInt (by omega); omega))
  subst w2
  refine lv_if_eq (tgt := 17) hx hb dX6_renew_4 (by decide) (fun c3 => ?_) (fun c3 => ?_)
  · skip
    exact absurd c3 (by decide)
  · skip
    refine lv_iload_n hx hb dX6_renew_7 rfl (lv_at hl 3 rfl) ?_
    refine lv_if_lt (tgt := 17) hx hb dX6_renew_8 (by decide) (fun c4 => ?_) (fun c4 => ?_)
    · skip
      have t_c3 := neI c3
      have t_c4 := ltI c4
      have : (0 : Int32).toInt = 0 := (by decide)
      have : (1 : Int32).toInt = 1 := (by decide)
      have t_n0 : (nI k).toInt = (k : Int) := nI_toInt (by omega)
      have t_n1 : (nI nn).toInt = (nn : Int) := nI_toInt (by omega)
      have t_n0 : (nI k).toInt = (k : Int) := nI_toInt (by omega)
      have t_n1 : (nI nn).toInt = (nn : Int) := nI_toInt (by omega)
      exfalso; omega
    · skip
      have n5 : 0 ≤ nn := by have t := nltI c4; rw [nI_toInt (n := nn) (by omega)] at t; have : (0 : Int32).toInt = 0 := (by decide); omega
      refine lv_iload_n hx hb dX6_renew_11 rfl (lv_at hl 3 rfl) ?_
      refine lv_bipush (v := 40) hx hb dX6_renew_12 (by decide) ?_
      refine lv_icmp_le (tgt := 18) hx hb dX6_renew_14 (by decide) (fun c6 => ?_) (fun c6 => ?_)
      · skip
        have n7 : nn ≤ 40 := by have t := leI c6; rw [nI_toInt (n := nn) (by omega)] at t; have : (40 : Int32).toInt = 40 := (by decide); omega
        refine lv_aload_n hx hb dX6_renew_18 rfl (lv_at hl 0 rfl) ?_
        refine va_get (D := (dC, dI)) (ci := 6) (v := .ref la) (C := RX6) (T := TX6) (N := 7) hx hb hg inG6 hown hK.1 hP 0 rfl rfl 0 (by decide) (hg _ wt_276) (fun _ h9 => h9) rfl dX6_renew_19 ?_
        refine lv_iload_n hx hb dX6_renew_22 rfl (lv_at hl 1 rfl) ?_
        refine lv_iload_n hx hb dX6_renew_23 rfl (lv_at hl 2 rfl) ?_
        refine va_iast hx hb hK.1 hP hD hS 1 0 rfl rfl (vp_in_nI (by have t_c3 := neI c3; have t_n5 := n5; have t_n7 := n7; have : (0 : Int32).toInt = 0 := (by decide); have : (1 : Int32).toInt = 1 := (by decide); have t_n0 : (nI k).toInt = (k : Int) := nI_toInt (by omega); have t_n1 : (nI nn).toInt = (nn : Int) := nI_toInt (by omega); omega) (by decide)) dX6_renew_24 (fun H locs hP hD hS => ?_)
        rw [nI_clamp (by omega)] at hP hD
        have hP : va_P (dC, dI) vwCl (([(h0, .inr (6, [.ref la, .ref si, .ref ce, .int x8, .int x9, .ref fi, .ref se])), (la, .inl (G 0, 4, .inl (upd fl k x1))), (si, .inl (G 0, 4, .inl fz)), (ce, .inl (G 4, 4, .inr (.inr (.inr (.inr (fun ir => if ir < 4 then some (rc ir) else none))))))] : va_W) ++ ((((List.range 4).map (fun iq => (rc iq, .inl (G 0, 40, .inl (F iq))))) : va_W) ++ [])) H := hP
        have hD : va_D A (([(h0, .inr (6, [.ref la, .ref si, .ref ce, .int x8, .int x9, .ref fi, .ref se])), (la, .inl (G 0, 4, .inl (upd fl k x1))), (si, .inl (G 0, 4, .inl fz)), (ce, .inl (G 4, 4, .inr (.inr (.inr (.inr (fun ir => if ir < 4 then some (rc ir) else none))))))] : va_W) ++ ((((List.range 4).map (fun iq => (rc iq, .inl (G 0, 40, .inl (F iq))))) : va_W) ++ [])) := hD
        refine lv_aload_n hx hb dX6_renew_25 rfl (lv_at hl 0 rfl) ?_
        refine va_get (D := (dC, dI)) (ci := 6) (v := .ref si) (C := RX6) (T := TX6) (N := 7) hx hb hg inG6 hown hK.1 hP 0 rfl rfl 1 (by decide) (hg _ wt_277) (fun _ h9 => h9) rfl dX6_renew_26 ?_
        refine lv_iload_n hx hb dX6_renew_29 rfl (lv_at hl 1 rfl) ?_
        refine lv_iload_n hx hb dX6_renew_30 rfl (lv_at hl 3 rfl) ?_
        refine va_iast hx hb hK.1 hP hD hS 2 0 rfl rfl (vp_in_nI (by have t_c3 := neI c3; have t_n5 := n5; have t_n7 := n7; have : (0 : Int32).toInt = 0 := (by decide); have : (1 : Int32).toInt = 1 := (by decide); have t_n0 : (nI k).toInt = (k : Int) := nI_toInt (by omega); have t_n1 : (nI nn).toInt = (nn : Int) := nI_toInt (by omega); omega) (by decide)) dX6_renew_31 (fun H locs hP hD hS => ?_)
        rw [nI_clamp (by omega)] at hP hD
        have hP : va_P (dC, dI) vwCl (([(h0, .inr (6, [.ref la, .ref si, .ref ce, .int x8, .int x9, .ref fi, .ref se])), (la, .inl (G 0, 4, .inl (upd fl k x1))), (si, .inl (G 0, 4, .inl (upd fz k (nI nn)))), (ce, .inl (G 4, 4, .inr (.inr (.inr (.inr (fun ir => if ir < 4 then some (rc ir) else none))))))] : va_W) ++ ((((List.range 4).map (fun iq => (rc iq, .inl (G 0, 40, .inl (F iq))))) : va_W) ++ [])) H := hP
        have hD : va_D A (([(h0, .inr (6, [.ref la, .ref si, .ref ce, .int x8, .int x9, .ref fi, .ref se])), (la, .inl (G 0, 4, .inl (upd fl k x1))), (si, .inl (G 0, 4, .inl (upd fz k (nI nn)))), (ce, .inl (G 4, 4, .inr (.inr (.inr (.inr (fun ir => if ir < 4 then some (rc ir) else none))))))] : va_W) ++ ((((List.range 4).map (fun iq => (rc iq, .inl (G 0, 40, .inl (F iq))))) : va_W) ++ [])) := hD
        refine lv_iconst (v := 0) hx hb dX6_renew_32 (by decide) ?_
        refine lv_istore (lv' := [(4, .int 0), (0, .ref h0), (1, .int (nI k)), (2, .int x1), (3, .int (nI nn))]) hx hb dX6_renew_33 hl (by decide) rfl (fun ls hl => ?_)
        have loop35_10 : ∀ (nf j8 : Nat), nn + 1 ≤ j8 + nf → j8 ≤ nn → ∀ (g9 : Nat → Nat → Int32) (H : Heap) (locs : List Loc), va_P (dC, dI) vwCl (([(h0, .inr (6, [.ref la, .ref si, .ref ce, .int x8, .int x9, .ref fi, .ref se])), (la, .inl (G 0, 4, .inl (upd fl k x1))), (si, .inl (G 0, 4, .inl (upd fz k (nI nn)))), (ce, .inl (G 4, 4, .inr (.inr (.inr (.inr (fun ir => if ir < 4 then some (rc ir) else none))))))] : va_W) ++ ((((List.range 4).map (fun iq => (rc iq, .inl (G 0, 40, .inl (g9 iq))))) : va_W) ++ [])) H → va_D A (([(h0, .inr (6, [.ref la, .ref si, .ref ce, .int x8, .int x9, .ref fi, .ref se])), (la, .inl (G 0, 4, .inl (upd fl k x1))), (si, .inl (G 0, 4, .inl (upd fz k (nI nn)))), (ce, .inl (G 4, 4, .inr (.inr (.inr (.inr (fun ir => if ir < 4 then some (rc ir) else none))))))] : va_W) ++ ((((List.range 4).map (fun iq => (rc iq, .inl (G 0, 40, .inl (g9 iq))))) : va_W) ++ [])) → va_S A s.heap H locs → ∀ (ls : Array Slot), lv_has ls 5 [(4, .int (nI j8)), (0, .ref h0), (1, .int (nI k)), (2, .int x1), (3, .int (nI nn))] → W p l e (headSpec (Cond.code yX6_renew cX6_renew 5 none :: GT) ({ frames := 1, cells := 0, slots := 0, locals := 20 } : Room)).room s m ([.ref h0, .int (nI k), .int x1, .int (nI nn)] : List Value).toArray below meth c H locs 0 0 (MQ below (va_Qv (fun (u : (Nat → Nat → Int32) × (Nat → Int32) × (Nat → Int32)) => match u with | (u0, u1, u2) => u1 = upd fl k x1 ∧ u2 = upd fz k (nI nn)) (fun (u : (Nat → Nat → Int32) × (Nat → Int32) × (Nat → Int32)) (t : State) => match u with | (u0, u1, u2) => va_P (dC, dI) vwCl (([(h0, .inr (6, [.ref la, .ref si, .ref ce, .int x8, .int x9, .ref fi, .ref se])), (la, .inl (G 0, 4, .inl u1)), (si, .inl (G 0, 4, .inl u2)), (ce, .inl (G 4, 4, .inr (.inr (.inr (.inr (fun ir => if ir < 4 then some (rc ir) else none))))))] : va_W) ++ ((((List.range 4).map (fun iq => (rc iq, .inl (G 0, 40, .inl (u0 iq))))) : va_W) ++ [])) t.heap ∧ va_D A (([(h0, .inr (6, [.ref la, .ref si, .ref ce, .int x8, .int x9, .ref fi, .ref se])), (la, .inl (G 0, 4, .inl u1)), (si, .inl (G 0, 4, .inl u2)), (ce, .inl (G 4, 4, .inr (.inr (.inr (.inr (fun ir => if ir < 4 then some (rc ir) else none))))))] : va_W) ++ ((((List.range 4).map (fun iq => (rc iq, .inl (G 0, 40, .inl (u0 iq))))) : va_W) ++ []))) A) ([.ref h0, .int (nI k), .int x1, .int (nI nn)] : List Value).toArray s 0 0 A) (F0 m 35 ls []) := by
          intro nf
          induction nf with
          | zero => intro j8 h1 h2; exact absurd h1 (by omega)
          | succ nf ih35_10 =>
            intro j8 hn11 hj12 g9 H locs hP hD hS ls hl
            refine lv_iload hx hb dX6_renew_35 (lv_at hl 0 rfl) ?_
            refine lv_iload_n hx hb dX6_renew_37 rfl (lv_at hl 4 rfl) ?_
            refine lv_icmp_ge (tgt := 57) hx hb dX6_renew_38 (by decide) (fun c13 => ?_) (fun c13 => ?_)
            · skip
              have n14 : nn ≤ j8 := by have t := leI c13; rw [nI_toInt (n := j8) (by omega)] at t; rw [nI_toInt (n := nn) (by omega)] at t; omega
              have hP9 := hP.sub (ws' := (([(h0, .inr (6, [.ref la, .ref si, .ref ce, .int x8, .int x9, .ref fi, .ref se])), (la, .inl (G 0, 4, .inl (upd fl k x1))), (si, .inl (G 0, 4, .inl (upd fz k (nI nn)))), (ce, .inl (G 4, 4, .inr (.inr (.inr (.inr (fun ir => if ir < 4 then some (rc ir) else none))))))] : va_W) ++ ((((List.range 4).map (fun iq => (rc iq, .inl (G 0, 40, .inl (g9 iq))))) : va_W) ++ []))) [0, 1, 2, 3, 4, 5, 6, 7] rfl
              have hD9 := hD.sub (ws' := (([(h0, .inr (6, [.ref la, .ref si, .ref ce, .int x8, .int x9, .ref fi, .ref se])), (la, .inl (G 0, 4, .inl (upd fl k x1))), (si, .inl (G 0, 4, .inl (upd fz k (nI nn)))), (ce, .inl (G 4, 4, .inr (.inr (.inr (.inr (fun ir => if ir < 4 then some (rc ir) else none))))))] : va_W) ++ ((((List.range 4).map (fun iq => (rc iq, .inl (G 0, 40, .inl (g9 iq))))) : va_W) ++ []))) [0, 1, 2, 3, 4, 5, 6, 7] (by decide) rfl
              refine W.widen (k := 0) (n := 0) (by omega) (by omega) ?_
              exact W.vret hx hb hr (fun t ht hW => ⟨⟨(g9, (upd fl k x1), (upd fz k (nI nn))), rfl, ⟨rfl, rfl⟩, ⟨by rw [ht]; exact hP9, hD9⟩⟩, hS.F ht⟩) hS.2.2 dX6_renew_57
            · skip
              have n15 : j8 < nn := by have t := nleI c13; rw [nI_toInt (n := j8) (by omega)] at t; rw [nI_toInt (n := nn) (by omega)] at t; omega
              refine lv_aload_n hx hb dX6_renew_41 rfl (lv_at hl 1 rfl) ?_
              refine va_get (D := (dC, dI)) (ci := 6) (v := .ref ce) (C := RX6) (T := TX6) (N := 7) hx hb hg inG6 hown hK.1 hP 0 rfl rfl 2 (by decide) (hg _ wt_278) (fun _ h9 => h9) rfl dX6_renew_42 ?_
              refine lv_iload_n hx hb dX6_renew_45 rfl (lv_at hl 2 rfl) ?_
              refine va_aldA hx hb hK.1 hP 3 4 rfl rfl (vp_in_nI (by have t_c3 := neI c3; have t_n5 := n5; have t_n7 := n7; have t_hj12 := hj12; have t_n15 := n15; have : (0 : Int32).toInt = 0 := (by decide); have : (1 : Int32).toInt = 1 := (by decide); have t_n0 : (nI k).toInt = (k : Int) := nI_toInt (by omega); have t_n1 : (nI nn).toInt = (nn : Int) := nI_toInt (by omega); have t_n2 : (nI j8).toInt = (j8 : Int) := nI_toInt (by omega); omega) (by decide)) dX6_renew_46 ?_
              refine lv_cgv (y := .ref (rc k)) (rowref (by have t_c3 := neI c3; have t_n5 := n5; have t_n7 := n7; have t_hj12 := hj12; have t_n15 := n15; have : (0 : Int32).toInt = 0 := (by decide); have : (1 : Int32).toInt = 1 := (by decide); have t_n0 : (nI k).toInt = (k : Int) := nI_toInt (by omega); have t_n1 : (nI nn).toInt = (nn : Int) := nI_toInt (by omega); have t_n2 : (nI j8).toInt = (j8 : Int) := nI_toInt (by omega); omega) (by decide)) ?_
              refine lv_iload hx hb dX6_renew_47 (lv_at hl 0 rfl) ?_
              refine lv_iconst (v := 0) hx hb dX6_renew_49 (by decide) ?_
              refine va_iastB (j := k) hx hb hK.1 hP hD hS 0 (by have t_c3 := neI c3; have t_n5 := n5; have t_n7 := n7; have t_hj12 := hj12; have t_n15 := n15; have : (0 : Int32).toInt = 0 := (by decide); have : (1 : Int32).toInt = 1 := (by decide); have t_n0 : (nI k).toInt = (k : Int) := nI_toInt (by omega); have t_n1 : (nI nn).toInt = (nn : Int) := nI_toInt (by omega); have t_n2 : (nI j8).toInt = (j8 : Int) := nI_toInt (by omega); omega) rfl (vp_in_nI (by have t_c3 := neI c3; have t_n5 := n5; have t_n7 := n7; have t_hj12 := hj12; have t_n15 := n15; have : (0 : Int32).toInt = 0 := (by decide); have : (1 : Int32).toInt = 1 := (by decide); have t_n0 : (nI k).toInt = (k : Int) := nI_toInt (by omega); have t_n1 : (nI nn).toInt = (nn : Int) := nI_toInt (by omega); have t_n2 : (nI j8).toInt = (j8 : Int) := nI_toInt (by omega); omega) (by decide)) dX6_renew_50 (fun H locs hP hD hS => ?_)
              rw [nI_clamp (by have t_c3 := neI c3; have t_n5 := n5; have t_n7 := n7; have t_hj12 := hj12; have t_n15 := n15; have : (0 : Int32).toInt = 0 := (by decide); have : (1 : Int32).toInt = 1 := (by decide); have t_n0 : (nI k).toInt = (k : Int) := nI_toInt (by omega); have t_n1 : (nI nn).toInt = (nn : Int) := nI_toInt (by omega); have t_n2 : (nI j8).toInt = (j8 : Int) := nI_toInt (by omega); omega)] at hP hD
              have hP : va_P (dC, dI) vwCl (([(h0, .inr (6, [.ref la, .ref si, .ref ce, .int x8, .int x9, .ref fi, .ref se])), (la, .inl (G 0, 4, .inl (upd fl k x1))), (si, .inl (G 0, 4, .inl (upd fz k (nI nn)))), (ce, .inl (G 4, 4, .inr (.inr (.inr (.inr (fun ir => if ir < 4 then some (rc ir) else none))))))] : va_W) ++ ((((List.range 4).map (fun iq => (rc iq, .inl (G 0, 40, .inl ((va_up g9 k (upd (g9 k) j8 0)) iq))))) : va_W) ++ [])) H := hP
              have hD : va_D A (([(h0, .inr (6, [.ref la, .ref si, .ref ce, .int x8, .int x9, .ref fi, .ref se])), (la, .inl (G 0, 4, .inl (upd fl k x1))), (si, .inl (G 0, 4, .inl (upd fz k (nI nn)))), (ce, .inl (G 4, 4, .inr (.inr (.inr (.inr (fun ir => if ir < 4 then some (rc ir) else none))))))] : va_W) ++ ((((List.range 4).map (fun iq => (rc iq, .inl (G 0, 40, .inl ((va_up g9 k (upd (g9 k) j8 0)) iq))))) : va_W) ++ [])) := hD
              refine lv_iinc (v := nI (j8 + 1)) (lv' := [(4, .int (nI (j8 + 1))), (0, .ref h0), (1, .int (nI k)), (2, .int x1), (3, .int (nI nn))]) hx hb dX6_renew_51 hl (k := 0) rfl (by rw [show Int32.ofInt 1 = nI 1 from by decide]; exact nI_add _ _) (by decide) rfl (fun ls hl => ?_)
              refine lv_goto (tgt := 35) hx hb dX6_renew_54 (by decide) ?_
              exact ih35_10 (j8 + 1) (by omega) (by omega) (va_up g9 k (upd (g9 k) j8 0)) _ _ hP hD hS ls (lv_sub hl [0, 1, 2, 3, 4] rfl)
        exact loop35_10 (nn + 1) 0 (by omega) (by omega) F _ _ hP hD hS ls (lv_sub hl [0, 1, 2, 3, 4] rfl)
      · skip
        have t_c3 := neI c3
        have t_n5 := n5
        have t_c6 := nleI c6
        have : (0 : Int32).toInt = 0 := (by decide)
        have : (1 : Int32).toInt = 1 := (by decide)
        have : (40 : Int32).toInt = 40 := (by decide)
        have t_n0 : (nI k).toInt = (k : Int) := nI_toInt (by omega)
        have t_n1 : (nI nn).toInt = (nn : Int) := nI_toInt (by omega)
        have t_n0 : (nI k).toInt = (k : Int) := nI_toInt (by omega)
        have t_n1 : (nI nn).toInt = (nn : Int) := nI_toInt (by omega)
        exfalso; omega

set_option maxHeartbeats 1000000 in
set_option maxRecDepth 100000 in
theorem c_X10_isFractionPart (l : Launch) (dC : Nat → ClassId) (dI : Nat → Nat → Nat) (G : Nat → ClassId) (sz : Nat) (i : Int32)  : Met l yX10_isFractionPart (Cond.code yX10_isFractionPart cX10_isFractionPart 1 (some .boolean) :: GT) ({ frames := 0, cells := 0, slots := 0, locals := 0 } : Room) (PcR [.int i] dC dI G [] sz) (va_Qi (fun (r : Int32) (u : Unit) => match u with | _ => (r = if 0 ≤ i.toInt ∧ i.toInt ≤ 1 then 1 else 0) ∧ True) (fun _ _ => True) (fun q : Nat => sz ≤ q)) 0 0 (fun q : Nat => sz ≤ q) := by
  refine Met.ofW (cc := cX10_isFractionPart) (maxL := 1) (ret := (some .boolean)) (by decide) rfl ?_
  intro p e s m args below meth c s₁ Bd hml hv
  obtain ⟨rfl, hsz, hP, hK⟩ := hv
  have hx := Bd.exec
  have hb := Bd.bytes
  have hr := Bd.returns
  have hg : ∀ w ∈ GT, w.before ([.int i] : List Value).toArray s = true := fun w h => atoms_spec (ws := Cond.code yX10_isFractionPart cX10_isFractionPart 1 (some .boolean) :: GT) Bd.pre w (List.mem_cons_of_mem _ h)
  have hown : s.vm.findClass RX10 = some m.cls := findClass_of_methodNamed Bd.named
  have hlocks := Bd.notSynchronized
  subst hsz
  have hA : ∀ q : Nat, s.heap.size ≤ q → (fun q : Nat => s.heap.size ≤ q) q := fun _ h => h
  have hS : va_S (fun q : Nat => s.heap.size ≤ q) s.heap s.heap [] := va_S.rf
  have hl := lv_entry ([.int i]) (n := 1) (Nat.le_of_ble_eq_true rfl)
  rw [lg_entry_eq]
  generalize (lg_sl ([.int i]) ++ List.replicate (1 - (lg_sl ([.int i])).length) Slot.unset).toArray = ls at hl ⊢
  have hl : lv_has ls 1 [(0, .int i)] := hl
  refine lv_iload_n hx hb dX10_isFractionPart_0 rfl (lv_at hl 0 rfl) ?_
  refine lv_if_eq (tgt := 9) hx hb dX10_isFractionPart_1 (by decide) (fun c1 => ?_) (fun c1 => ?_)
  · skip
    refine lv_iconst (v := 1) hx hb dX10_isFractionPart_9 (by decide) ?_
    refine lv_goto (tgt := 14) hx hb dX10_isFractionPart_10 (by decide) ?_
    have hpost : (1 : Int32) = if 0 ≤ i.toInt ∧ i.toInt ≤ 1 then 1 else 0 := by
      have t_c1 := eqI c1
      have : (0 : Int32).toInt = 0 := (by decide)
      first | rfl | ((repeat' split) <;> first | rfl | omega)
    refine W.widen (k := 0) (n := 0) (by omega) (by omega) ?_
    exact W.zret (v := 1) hx hb hr (by first | rfl | decide | exact rfl) (fun t ht hW => ⟨⟨1, (), rfl, ⟨hpost, trivial⟩, trivial⟩, hS.F ht⟩) hS.2.2 dX10_isFractionPart_14
  · skip
    refine lv_iload_n hx hb dX10_isFractionPart_4 rfl (lv_at hl 0 rfl) ?_
    refine lv_iconst (v := 1) hx hb dX10_isFractionPart_5 (by decide) ?_
    refine lv_icmp_ne (tgt := 13) hx hb dX10_isFractionPart_6 (by decide) (fun c2 => ?_) (fun c2 => ?_)
    · skip
      refine lv_iconst (v := 0) hx hb dX10_isFractionPart_13 (by decide) ?_
      have hpost : (0 : Int32) = if 0 ≤ i.toInt ∧ i.toInt ≤ 1 then 1 else 0 := by
        have t_c1 := neI c1
        have t_c2 := neI c2
        have : (0 : Int32).toInt = 0 := (by decide)
        have : (1 : Int32).toInt = 1 := (by decide)
        first | rfl | ((repeat' split) <;> first | rfl | omega)
      refine W.widen (k := 0) (n := 0) (by omega) (by omega) ?_
      exact W.zret (v := 0) hx hb hr (by first | rfl | decide | exact rfl) (fun t ht hW => ⟨⟨0, (), rfl, ⟨hpost, trivial⟩, trivial⟩, hS.F ht⟩) hS.2.2 dX10_isFractionPart_14
    · skip
      refine lv_iconst (v := 1) hx hb dX10_isFractionPart_9 (by decide) ?_
      refine lv_goto (tgt := 14) hx hb dX10_isFractionPart_10 (by decide) ?_
      have hpost : (1 : Int32) = if 0 ≤ i.toInt ∧ i.toInt ≤ 1 then 1 else 0 := by
        have t_c1 := neI c1
        have t_c2 := eqI c2
        have : (0 : Int32).toInt = 0 := (by decide)
        have : (1 : Int32).toInt = 1 := (by decide)
        first | rfl | ((repeat' split) <;> first | rfl | omega)
      refine W.widen (k := 0) (n := 0) (by omega) (by omega) ?_
      exact W.zret (v := 1) hx hb hr (by first | rfl | decide | exact rfl) (fun t ht hW => ⟨⟨1, (), rfl, ⟨hpost, trivial⟩, trivial⟩, hS.F ht⟩) hS.2.2 dX10_isFractionPart_14

set_option maxHeartbeats 1000000 in
set_option maxRecDepth 100000 in
theorem c_X10_isAnswerPart (l : Launch) (dC : Nat → ClassId) (dI : Nat → Nat → Nat) (G : Nat → ClassId) (sz : Nat) (i : Int32)  : Met l yX10_isAnswerPart (Cond.code yX10_isAnswerPart cX10_isAnswerPart 1 (some .boolean) :: GT) ({ frames := 0, cells := 0, slots := 0, locals := 0 } : Room) (PcR [.int i] dC dI G [] sz) (va_Qi (fun (r : Int32) (u : Unit) => match u with | _ => (r = if 0 ≤ i.toInt ∧ i.toInt ≤ 2 then 1 else 0) ∧ True) (fun _ _ => True) (fun q : Nat => sz ≤ q)) 0 0 (fun q : Nat => sz ≤ q) := by
  refine Met.ofW (cc := cX10_isAnswerPart) (maxL := 1) (ret := (some .boolean)) (by decide) rfl ?_
  intro p e s m args below meth c s₁ Bd hml hv
  obtain ⟨rfl, hsz, hP, hK⟩ := hv
  have hx := Bd.exec
  have hb := Bd.bytes
  have hr := Bd.returns
  have hg : ∀ w ∈ GT, w.before ([.int i] : List Value).toArray s = true := fun w h => atoms_spec (ws := Cond.code yX10_isAnswerPart cX10_isAnswerPart 1 (some .boolean) :: GT) Bd.pre w (List.mem_cons_of_mem _ h)
  have hown : s.vm.findClass RX10 = some m.cls := findClass_of_methodNamed Bd.named
  have hlocks := Bd.notSynchronized
  subst hsz
  have hA : ∀ q : Nat, s.heap.size ≤ q → (fun q : Nat => s.heap.size ≤ q) q := fun _ h => h
  have hS : va_S (fun q : Nat => s.heap.size ≤ q) s.heap s.heap [] := va_S.rf
  have hl := lv_entry ([.int i]) (n := 1) (Nat.le_of_ble_eq_true rfl)
  rw [lg_entry_eq]
  generalize (lg_sl ([.int i]) ++ List.replicate (1 - (lg_sl ([.int i])).length) Slot.unset).toArray = ls at hl ⊢
  have hl : lv_has ls 1 [(0, .int i)] := hl
  refine lv_iload_n hx hb dX10_isAnswerPart_0 rfl (lv_at hl 0 rfl) ?_
  refine lv_if_lt (tgt := 13) hx hb dX10_isAnswerPart_1 (by decide) (fun c1 => ?_) (fun c1 => ?_)
  · skip
    refine lv_iconst (v := 0) hx hb dX10_isAnswerPart_13 (by decide) ?_
    have hpost : (0 : Int32) = if 0 ≤ i.toInt ∧ i.toInt ≤ 2 then 1 else 0 := by
      have t_c1 := ltI c1
      have : (0 : Int32).toInt = 0 := (by decide)
      first | rfl | ((repeat' split) <;> first | rfl | omega)
    refine W.widen (k := 0) (n := 0) (by omega) (by omega) ?_
    exact W.zret (v := 0) hx hb hr (by first | rfl | decide | exact rfl) (fun t ht hW => ⟨⟨0, (), rfl, ⟨hpost, trivial⟩, trivial⟩, hS.F ht⟩) hS.2.2 dX10_isAnswerPart_14
  · skip
    refine lv_iload_n hx hb dX10_isAnswerPart_4 rfl (lv_at hl 0 rfl) ?_
    refine lv_iconst (v := 2) hx hb dX10_isAnswerPart_5 (by decide) ?_
    refine lv_icmp_gt (tgt := 13) hx hb dX10_isAnswerPart_6 (by decide) (fun c2 => ?_) (fun c2 => ?_)
    · skip
      refine lv_iconst (v := 0) hx hb dX10_isAnswerPart_13 (by decide) ?_
      have hpost : (0 : Int32) = if 0 ≤ i.toInt ∧ i.toInt ≤ 2 then 1 else 0 := by
        have t_c1 := nltI c1
        have t_c2 := ltI c2
        have : (0 : Int32).toInt = 0 := (by decide)
        have : (2 : Int32).toInt = 2 := (by decide)
        first | rfl | ((repeat' split) <;> first | rfl | omega)
      refine W.widen (k := 0) (n := 0) (by omega) (by omega) ?_
      exact W.zret (v := 0) hx hb hr (by first | rfl | decide | exact rfl) (fun t ht hW => ⟨⟨0, (), rfl, ⟨hpost, trivial⟩, trivial⟩, hS.F ht⟩) hS.2.2 dX10_isAnswerPart_14
    · skip
      refine lv_iconst (v := 1) hx hb dX10_isAnswerPart_9 (by decide) ?_
      refine lv_goto (tgt := 14) hx hb dX10_isAnswerPart_10 (by decide) ?_
      have hpost : (1 : Int32) = if 0 ≤ i.toInt ∧ i.toInt ≤ 2 then 1 else 0 := by
        have t_c1 := nltI c1
        have t_c2 := nltI c2
        have : (0 : Int32).toInt = 0 := (by decide)
        have : (2 : Int32).toInt = 2 := (by decide)
        first | rfl | ((repeat' split) <;> first | rfl | omega)
      refine W.widen (k := 0) (n := 0) (by omega) (by omega) ?_
      exact W.zret (v := 1) hx hb hr (by first | rfl | decide | exact rfl) (fun t ht hW => ⟨⟨1, (), rfl, ⟨hpost, trivial⟩, trivial⟩, hS.F ht⟩) hS.2.2 dX10_isAnswerPart_14

set_option maxHeartbeats 1000000 in
set_option maxRecDepth 100000 in
theorem c_X10_isDepth (l : Launch) (dC : Nat → ClassId) (dI : Nat → Nat → Nat) (G : Nat → ClassId) (sz : Nat) (i : Int32)  : Met l yX10_isDepth (Cond.code yX10_isDepth cX10_isDepth 1 (some .boolean) :: GT) ({ frames := 0, cells := 0, slots := 0, locals := 0 } : Room) (PcR [.int i] dC dI G [] sz) (va_Qi (fun (r : Int32) (u : Unit) => match u with | _ => (r = if 0 ≤ i.toInt ∧ i.toInt ≤ 9 then 1 else 0) ∧ True) (fun _ _ => True) (fun q : Nat => sz ≤ q)) 0 0 (fun q : Nat => sz ≤ q) := by
  refine Met.ofW (cc := cX10_isDepth) (maxL := 1) (ret := (some .boolean)) (by decide) rfl ?_
  intro p e s m args below meth c s₁ Bd hml hv
  obtain ⟨rfl, hsz, hP, hK⟩ := hv
  have hx := Bd.exec
  have hb := Bd.bytes
  have hr := Bd.returns
  have hg : ∀ w ∈ GT, w.before ([.int i] : List Value).toArray s = true := fun w h => atoms_spec (ws := Cond.code yX10_isDepth cX10_isDepth 1 (some .boolean) :: GT) Bd.pre w (List.mem_cons_of_mem _ h)
  have hown : s.vm.findClass RX10 = some m.cls := findClass_of_methodNamed Bd.named
  have hlocks := Bd.notSynchronized
  subst hsz
  have hA : ∀ q : Nat, s.heap.size ≤ q → (fun q : Nat => s.heap.size ≤ q) q := fun _ h => h
  have hS : va_S (fun q : Nat => s.heap.size ≤ q) s.heap s.heap [] := va_S.rf
  have hl := lv_entry ([.int i]) (n := 1) (Nat.le_of_ble_eq_true rfl)
  rw [lg_entry_eq]
  generalize (lg_sl ([.int i]) ++ List.replicate (1 - (lg_sl ([.int i])).length) Slot.unset).toArray = ls at hl ⊢
  have hl : lv_has ls 1 [(0, .int i)] := hl
  refine lv_iload_n hx hb dX10_isDepth_0 rfl (lv_at hl 0 rfl) ?_
  refine lv_if_lt (tgt := 14) hx hb dX10_isDepth_1 (by decide) (fun c1 => ?_) (fun c1 => ?_)
  · skip
    refine lv_iconst (v := 0) hx hb dX10_isDepth_14 (by decide) ?_
    have hpost : (0 : Int32) = if 0 ≤ i.toInt ∧ i.toInt ≤ 9 then 1 else 0 := by
      have t_c1 := ltI c1
      have : (0 : Int32).toInt = 0 := (by decide)
      first | rfl | ((repeat' split) <;> first | rfl | omega)
    refine W.widen (k := 0) (n := 0) (by omega) (by omega) ?_
    exact W.zret (v := 0) hx hb hr (by first | rfl | decide | exact rfl) (fun t ht hW => ⟨⟨0, (), rfl, ⟨hpost, trivial⟩, trivial⟩, hS.F ht⟩) hS.2.2 dX10_isDepth_15
  · skip
    refine lv_iload_n hx hb dX10_isDepth_4 rfl (lv_at hl 0 rfl) ?_
    refine lv_bipush (v := 9) hx hb dX10_isDepth_5 (by decide) ?_
    refine lv_icmp_gt (tgt := 14) hx hb dX10_isDepth_7 (by decide) (fun c2 => ?_) (fun c2 => ?_)
    · skip
      refine lv_iconst (v := 0) hx hb dX10_isDepth_14 (by decide) ?_
      have hpost : (0 : Int32) = if 0 ≤ i.toInt ∧ i.toInt ≤ 9 then 1 else 0 := by
        have t_c1 := nltI c1
        have t_c2 := ltI c2
        have : (0 : Int32).toInt = 0 := (by decide)
        have : (9 : Int32).toInt = 9 := (by decide)
        first | rfl | ((repeat' split) <;> first | rfl | omega)
      refine W.widen (k := 0) (n := 0) (by omega) (by omega) ?_
      exact W.zret (v := 0) hx hb hr (by first | rfl | decide | exact rfl) (fun t ht hW => ⟨⟨0, (), rfl, ⟨hpost, trivial⟩, trivial⟩, hS.F ht⟩) hS.2.2 dX10_isDepth_15
    · skip
      refine lv_iconst (v := 1) hx hb dX10_isDepth_10 (by decide) ?_
      refine lv_goto (tgt := 15) hx hb dX10_isDepth_11 (by decide) ?_
      have hpost : (1 : Int32) = if 0 ≤ i.toInt ∧ i.toInt ≤ 9 then 1 else 0 := by
        have t_c1 := nltI c1
        have t_c2 := nltI c2
        have : (0 : Int32).toInt = 0 := (by decide)
        have : (9 : Int32).toInt = 9 := (by decide)
        first | rfl | ((repeat' split) <;> first | rfl | omega)
      refine W.widen (k := 0) (n := 0) (by omega) (by omega) ?_
      exact W.zret (v := 1) hx hb hr (by first | rfl | decide | exact rfl) (fun t ht hW => ⟨⟨1, (), rfl, ⟨hpost, trivial⟩, trivial⟩, hS.F ht⟩) hS.2.2 dX10_isDepth_15

set_option maxHeartbeats 1000000 in
set_option maxRecDepth 100000 in
theorem c_X10_isImage (l : Launch) (dC : Nat → ClassId) (dI : Nat → Nat → Nat) (G : Nat → ClassId) (sz : Nat) (i : Int32)  : Met l yX10_isImage (Cond.code yX10_isImage cX10_isImage 1 (some .boolean) :: GT) ({ frames := 0, cells := 0, slots := 0, locals := 0 } : Room) (PcR [.int i] dC dI G [] sz) (va_Qi (fun (r : Int32) (u : Unit) => match u with | _ => (r = if 0 ≤ i.toInt ∧ i.toInt < 2 then 1 else 0) ∧ True) (fun _ _ => True) (fun q : Nat => sz ≤ q)) 0 0 (fun q : Nat => sz ≤ q) := by
  refine Met.ofW (cc := cX10_isImage) (maxL := 1) (ret := (some .boolean)) (by decide) rfl ?_
  intro p e s m args below meth c s₁ Bd hml hv
  obtain ⟨rfl, hsz, hP, hK⟩ := hv
  have hx := Bd.exec
  have hb := Bd.bytes
  have hr := Bd.returns
  have hg : ∀ w ∈ GT, w.before ([.int i] : List Value).toArray s = true := fun w h => atoms_spec (ws := Cond.code yX10_isImage cX10_isImage 1 (some .boolean) :: GT) Bd.pre w (List.mem_cons_of_mem _ h)
  have hown : s.vm.findClass RX10 = some m.cls := findClass_of_methodNamed Bd.named
  have hlocks := Bd.notSynchronized
  subst hsz
  have hA : ∀ q : Nat, s.heap.size ≤ q → (fun q : Nat => s.heap.size ≤ q) q := fun _ h => h
  have hS : va_S (fun q : Nat => s.heap.size ≤ q) s.heap s.heap [] := va_S.rf
  have hl := lv_entry ([.int i]) (n := 1) (Nat.le_of_ble_eq_true rfl)
  rw [lg_entry_eq]
  generalize (lg_sl ([.int i]) ++ List.replicate (1 - (lg_sl ([.int i])).length) Slot.unset).toArray = ls at hl ⊢
  have hl : lv_has ls 1 [(0, .int i)] := hl
  refine lv_iload_n hx hb dX10_isImage_0 rfl (lv_at hl 0 rfl) ?_
  refine lv_if_lt (tgt := 13) hx hb dX10_isImage_1 (by decide) (fun c1 => ?_) (fun c1 => ?_)
  · skip
    refine lv_iconst (v := 0) hx hb dX10_isImage_13 (by decide) ?_
    have hpost : (0 : Int32) = if 0 ≤ i.toInt ∧ i.toInt < 2 then 1 else 0 := by
      have t_c1 := ltI c1
      have : (0 : Int32).toInt = 0 := (by decide)
      first | rfl | ((repeat' split) <;> first | rfl | omega)
    refine W.widen (k := 0) (n := 0) (by omega) (by omega) ?_
    exact W.zret (v := 0) hx hb hr (by first | rfl | decide | exact rfl) (fun t ht hW => ⟨⟨0, (), rfl, ⟨hpost, trivial⟩, trivial⟩, hS.F ht⟩) hS.2.2 dX10_isImage_14
  · skip
    refine lv_iload_n hx hb dX10_isImage_4 rfl (lv_at hl 0 rfl) ?_
    refine lv_iconst (v := 2) hx hb dX10_isImage_5 (by decide) ?_
    refine lv_icmp_ge (tgt := 13) hx hb dX10_isImage_6 (by decide) (fun c2 => ?_) (fun c2 => ?_)
    · skip
      refine lv_iconst (v := 0) hx hb dX10_isImage_13 (by decide) ?_
      have hpost : (0 : Int32) = if 0 ≤ i.toInt ∧ i.toInt < 2 then 1 else 0 := by
        have t_c1 := nltI c1
        have t_c2 := leI c2
        have : (0 : Int32).toInt = 0 := (by decide)
        have : (2 : Int32).toInt = 2 := (by decide)
        first | rfl | ((repeat' split) <;> first | rfl | omega)
      refine W.widen (k := 0) (n := 0) (by omega) (by omega) ?_
      exact W.zret (v := 0) hx hb hr (by first | rfl | decide | exact rfl) (fun t ht hW => ⟨⟨0, (), rfl, ⟨hpost, trivial⟩, trivial⟩, hS.F ht⟩) hS.2.2 dX10_isImage_14
    · skip
      refine lv_iconst (v := 1) hx hb dX10_isImage_9 (by decide) ?_
      refine lv_goto (tgt := 14) hx hb dX10_isImage_10 (by decide) ?_
      have hpost : (1 : Int32) = if 0 ≤ i.toInt ∧ i.toInt < 2 then 1 else 0 := by
        have t_c1 := nltI c1
        have t_c2 := nleI c2
        have : (0 : Int32).toInt = 0 := (by decide)
        have : (2 : Int32).toInt = 2 := (by decide)
        first | rfl | ((repeat' split) <;> first | rfl | omega)
      refine W.widen (k := 0) (n := 0) (by omega) (by omega) ?_
      exact W.zret (v := 1) hx hb hr (by first | rfl | decide | exact rfl) (fun t ht hW => ⟨⟨1, (), rfl, ⟨hpost, trivial⟩, trivial⟩, hS.F ht⟩) hS.2.2 dX10_isImage_14

set_option maxHeartbeats 1000000 in
set_option maxRecDepth 100000 in
theorem c_X10_change (l : Launch) (dC : Nat → ClassId) (dI : Nat → Nat → Nat) (G : Nat → ClassId) (sz : Nat) (ra k : Nat) (v : Int32) (f : Nat → Int32) (hk : k < 10) : Met l yX10_change (Cond.code yX10_change cX10_change 4 (some .int) :: GT) ({ frames := 0, cells := 0, slots := 0, locals := 0 } : Room) (PcW [.ref ra, .int (nI k), .int v] dC dI G [(ra, .inl (G 0, 10, .inl f))] sz) (va_Qi (fun (r : Int32) (u : (Nat → Int32)) => match u with | u0 => (True) ∧ True) (fun (u : (Nat → Int32)) (t : State) => match u with | u0 => va_P (dC, dI) vwCl [(ra, .inl (G 0, 10, .inl u0))] t.heap ∧ va_D (va_A [(ra, .inl (G 0, 10, .inl f))] sz) [(ra, .inl (G 0, 10, .inl u0))]) (va_A [(ra, .inl (G 0, 10, .inl f))] sz)) 0 0 (va_A [(ra, .inl (G 0, 10, .inl f))] sz) := by
  refine Met.ofW (cc := cX10_change) (maxL := 4) (ret := (some .int)) (by decide) rfl ?_
  intro p e s m args below meth c s₁ Bd hml hv
  obtain ⟨rfl, hsz, hP, hK, hD0⟩ := hv
  have hx := Bd.exec
  have hb := Bd.bytes
  have hr := Bd.returns
  have hg : ∀ w ∈ GT, w.before ([.ref ra, .int (nI k), .int v] : List Value).toArray s = true := fun w h => atoms_spec (ws := Cond.code yX10_change cX10_change 4 (some .int) :: GT) Bd.pre w (List.mem_cons_of_mem _ h)
  have hown : s.vm.findClass RX10 = some m.cls := findClass_of_methodNamed Bd.named
  have hlocks := Bd.notSynchronized
  subst hsz
  have hD := hD0.self (sz := s.heap.size)
  generalize hAe : va_A [(ra, .inl (G 0, 10, .inl f))] s.heap.size = A at hD ⊢
  have hA : ∀ q : Nat, s.heap.size ≤ q → A q := fun q h => by rw [← hAe]; exact Or.inr h
  have hS : va_S A s.heap s.heap [] := va_S.rf
  have hl := lv_entry ([.ref ra, .int (nI k), .int v]) (n := 4) (Nat.le_of_ble_eq_true rfl)
  rw [lg_entry_eq]
  generalize (lg_sl ([.ref ra, .int (nI k), .int v]) ++ List.replicate (4 - (lg_sl ([.ref ra, .int (nI k), .int v])).length) Slot.unset).toArray = ls at hl ⊢
  have hl : lv_has ls 4 [(0, .ref ra), (1, .int (nI k)), (2, .int v)] := hl
  refine lv_iload_n hx hb dX10_change_0 rfl (lv_at hl 2 rfl) ?_
  refine lv_if_lt (tgt := 20) hx hb dX10_change_1 (by decide) (fun c1 => ?_) (fun c1 => ?_)
  · skip
    refine lv_iconst (v := (-1)) hx hb dX10_change_20 (by decide) ?_
    have hpost : True := by
      trivial
    have hP9 := hP.sub (ws' := [(ra, .inl (G 0, 10, .inl f))]) [0] rfl
    have hD9 := hD.sub (ws' := [(ra, .inl (G 0, 10, .inl f))]) [0] (by decide) rfl
    refine W.widen (k := 0) (n := 0) (by omega) (by omega) ?_
    exact W.iret (v := (-1)) hx hb hr (fun t ht hW => ⟨⟨(-1), f, rfl, ⟨hpost, trivial⟩, ⟨by rw [ht]; exact hP9, hD9⟩⟩, hS.F ht⟩) hS.2.2 dX10_change_21
  · skip
    refine lv_iload_n hx hb dX10_change_4 rfl (lv_at hl 2 rfl) ?_
    refine lv_bipush (v := 9) hx hb dX10_change_5 (by decide) ?_
    refine lv_icmp_gt (tgt := 20) hx hb dX10_change_7 (by decide) (fun c2 => ?_) (fun c2 => ?_)
    · skip
      refine lv_iconst (v := (-1)) hx hb dX10_change_20 (by decide) ?_
      have hpost : True := by
        trivial
      have hP9 := hP.sub (ws' := [(ra, .inl (G 0, 10, .inl f))]) [0] rfl
      have hD9 := hD.sub (ws' := [(ra, .inl (G 0, 10, .inl f))]) [0] (by decide) rfl
      refine W.widen (k := 0) (n := 0) (by omega) (by omega) ?_
      exact W.iret (v := (-1)) hx hb hr (fun t ht hW => ⟨⟨(-1), f, rfl, ⟨hpost, trivial⟩, ⟨by rw [ht]; exact hP9, hD9⟩⟩, hS.F ht⟩) hS.2.2 dX10_change_21
    · skip
      refine lv_iload_n hx hb dX10_change_10 rfl (lv_at hl 1 rfl) ?_
      refine lv_if_lt (tgt := 20) hx hb dX10_change_11 (by decide) (fun c3 => ?_) (fun c3 => ?_)
      · skip
        have t_c1 := nltI c1
        have t_c2 := nltI c2
        have t_c3 := ltI c3
        have : (0 : Int32).toInt = 0 := (by decide)
        have : (9 : Int32).toInt = 9 := (by decide)
        have t_n0 : (nI k).toInt = (k : Int) := nI_toInt (by omega)
        have t_n0 : (nI k).toInt = (k : Int) := nI_toInt (by omega)
        exfalso; omega
      · skip
        have n4 : 0 ≤ k := by have t := nltI c3; rw [nI_toInt (n := k) (by omega)] at t; have : (0 : Int32).toInt = 0 := (by decide); omega
        refine lv_iload_n hx hb dX10_change_14 rfl (lv_at hl 1 rfl) ?_
        refine lv_aload_n hx hb dX10_change_15 rfl (lv_at hl 0 rfl) ?_
        refine va_alen (v := 10) hx hb hK.1 hP 0 0 rfl rfl (by rfl) dX10_change_16 ?_
        refine lv_icmp_lt (tgt := 22) hx hb dX10_change_17 (by decide) (fun c5 => ?_) (fun c5 => ?_)
        · skip
          have n6 : k < 10 := by have t := ltI c5; rw [nI_toInt (n := k) (by omega)] at t; have : (10 : Int32).toInt = 10 := (by decide); omega
          refine lv_aload_n hx hb dX10_change_22 rfl (lv_at hl 0 rfl) ?_
          refine lv_iload_n hx hb dX10_change_23 rfl (lv_at hl 1 rfl) ?_
          refine va_iald hx hb hK.1 hP 0 0 rfl rfl (vp_in_nI (by have t_c1 := nltI c1; have t_c2 := nltI c2; have t_n4 := n4; have t_n6 := n6; have : (0 : Int32).toInt = 0 := (by decide); have : (9 : Int32).toInt = 9 := (by decide); have t_n0 : (nI k).toInt = (k : Int) := nI_toInt (by omega); omega) (by decide)) dX10_change_24 ?_
          refine lv_cg (y := f k) (by rw [nI_clamp (by omega)]) ?_
          refine lv_istore_n (lv' := [(3, .int (f k)), (0, .ref ra), (1, .int (nI k)), (2, .int v)]) hx hb dX10_change_25 rfl hl (by decide) rfl (fun ls hl => ?_)
          refine lv_aload_n hx hb dX10_change_26 rfl (lv_at hl 1 rfl) ?_
          refine lv_iload_n hx hb dX10_change_27 rfl (lv_at hl 2 rfl) ?_
          refine lv_iload_n hx hb dX10_change_28 rfl (lv_at hl 3 rfl) ?_
          refine va_iast hx hb hK.1 hP hD hS 0 0 rfl rfl (vp_in_nI (by have t_c1 := nltI c1; have t_c2 := nltI c2; have t_n4 := n4; have t_n6 := n6; have : (0 : Int32).toInt = 0 := (by decide); have : (9 : Int32).toInt = 9 := (by decide); have t_n0 : (nI k).toInt = (k : Int) := nI_toInt (by omega); omega) (by decide)) dX10_change_29 (fun H locs hP hD hS => ?_)
          rw [nI_clamp (by omega)] at hP hD
          have hP : va_P (dC, dI) vwCl [(ra, .inl (G 0, 10, .inl (upd f k v)))] H := hP
          have hD : va_D A [(ra, .inl (G 0, 10, .inl (upd f k v)))] := hD
          refine lv_iload_n hx hb dX10_change_30 rfl (lv_at hl 0 rfl) ?_
          have hpost : True := by
            trivial
          have hP9 := hP.sub (ws' := [(ra, .inl (G 0, 10, .inl (upd f k v)))]) [0] rfl
          have hD9 := hD.sub (ws' := [(ra, .inl (G 0, 10, .inl (upd f k v)))]) [0] (by decide) rfl
          refine W.widen (k := 0) (n := 0) (by omega) (by omega) ?_
          exact W.iret (v := f k) hx hb hr (fun t ht hW => ⟨⟨f k, (upd f k v), rfl, ⟨hpost, trivial⟩, ⟨by rw [ht]; exact hP9, hD9⟩⟩, hS.F ht⟩) hS.2.2 dX10_change_31
        · skip
          have t_c1 := nltI c1
          have t_c2 := nltI c2
          have t_n4 := n4
          have t_c5 := nltI c5
          have : (0 : Int32).toInt = 0 := (by decide)
          have : (9 : Int32).toInt = 9 := (by decide)
          have : (10 : Int32).toInt = 10 := (by decide)
          have t_n0 : (nI k).toInt = (k : Int) := nI_toInt (by omega)
          have t_n0 : (nI k).toInt = (k : Int) := nI_toInt (by omega)
          exfalso; omega

set_option maxHeartbeats 1000000 in
set_option maxRecDepth 100000 in
theorem c_X10_commonDivisor (l : Launch) (dC : Nat → ClassId) (dI : Nat → Nat → Nat) (G : Nat → ClassId) (sz : Nat) (v q1 : Int64)  : Met l yX10_commonDivisor (Cond.code yX10_commonDivisor cX10_commonDivisor 11 (some .long) :: GT) ({ frames := 0, cells := 0, slots := 0, locals := 0 } : Room) (PcR [.long v, .long q1] dC dI G [] sz) (va_Ql (fun (r : Int64) (u : Unit) => match u with | _ => (True) ∧ True) (fun _ _ => True) (fun q : Nat => sz ≤ q)) 0 0 (fun q : Nat => sz ≤ q) := by
  refine Met.ofW (cc := cX10_commonDivisor) (maxL := 11) (ret := (some .long)) (by decide) rfl ?_
  intro p e s m args below meth c s₁ Bd hml hv
  obtain ⟨rfl, hsz, hP, hK⟩ := hv
  have hx := Bd.exec
  have hb := Bd.bytes
  have hr := Bd.returns
  have hg : ∀ w ∈ GT, w.before ([.long v, .long q1] : List Value).toArray s = true := fun w h => atoms_spec (ws := Cond.code yX10_commonDivisor cX10_commonDivisor 11 (some .long) :: GT) Bd.pre w (List.mem_cons_of_mem _ h)
  have hown : s.vm.findClass RX10 = some m.cls := findClass_of_methodNamed Bd.named
  have hlocks := Bd.notSynchronized
  subst hsz
  have hA : ∀ q : Nat, s.heap.size ≤ q → (fun q : Nat => s.heap.size ≤ q) q := fun _ h => h
  have hS : va_S (fun q : Nat => s.heap.size ≤ q) s.heap s.heap [] := va_S.rf
  have hl := lv_entry ([.long v, .long q1]) (n := 11) (Nat.le_of_ble_eq_true rfl)
  rw [lg_entry_eq]
  generalize (lg_sl ([.long v, .long q1]) ++ List.replicate (11 - (lg_sl ([.long v, .long q1])).length) Slot.unset).toArray = ls at hl ⊢
  have hl : lv_has ls 11 [(0, .long v), (2, .long q1)] := hl
  refine lv_lload_n hx hb dX10_commonDivisor_0 rfl (lv_at hl 0 rfl) ?_
  refine lv_lstore (lv' := [(4, .long v), (0, .long v), (2, .long q1)]) hx hb dX10_commonDivisor_1 hl (by decide) rfl (fun ls hl => ?_)
  refine lv_lload_n hx hb dX10_commonDivisor_3 rfl (lv_at hl 2 rfl) ?_
  refine lv_lstore (lv' := [(6, .long q1), (4, .long v), (0, .long v), (2, .long q1)]) hx hb dX10_commonDivisor_4 hl (by decide) rfl (fun ls hl => ?_)
  refine lv_iconst (v := 0) hx hb dX10_commonDivisor_6 (by decide) ?_
  refine lv_istore (lv' := [(8, .int 0), (6, .long q1), (4, .long v), (0, .long v), (2, .long q1)]) hx hb dX10_commonDivisor_7 hl (by decide) rfl (fun ls hl => ?_)
  have loop9_4 : ∀ (nf j1 : Nat), 200 + 1 ≤ j1 + nf → j1 ≤ 200 → ∀ (y2 : Int64) (y3 : Int64) (H : Heap) (locs : List Loc), va_P (dC, dI) vwCl [] H → va_S (fun q : Nat => s.heap.size ≤ q) s.heap H locs → ∀ (ls : Array Slot), lv_has ls 11 [(8, .int (nI j1)), (6, .long y2), (4, .long y3), (0, .long v), (2, .long q1)] → W p l e (headSpec (Cond.code yX10_commonDivisor cX10_commonDivisor 11 (some .long) :: GT) ({ frames := 0, cells := 0, slots := 0, locals := 0 } : Room)).room s m ([.long v, .long q1] : List Value).toArray below meth c H locs 0 0 (MQ below (va_Ql (fun (r : Int64) (u : Unit) => match u with | _ => (True) ∧ True) (fun _ _ => True) (fun q : Nat => s.heap.size ≤ q)) ([.long v, .long q1] : List Value).toArray s 0 0 (fun q : Nat => s.heap.size ≤ q)) (F0 m 9 ls []) := by
    intro nf
    induction nf with
    | zero => intro j1 h1 h2; exact absurd h1 (by omega)
    | succ nf ih9_4 =>
      intro j1 hn5 hj6 y2 y3 H locs hP hS ls hl
      refine lv_iload hx hb dX10_commonDivisor_9 (lv_at hl 0 rfl) ?_
      refine lv_sipush (v := 200) hx hb dX10_commonDivisor_11 (by decide) ?_
      refine lv_icmp_ge (tgt := 45) hx hb dX10_commonDivisor_14 (by decide) (fun c7 => ?_) (fun c7 => ?_)
      · skip
        have n8 : 200 ≤ j1 := by have t := leI c7; rw [nI_toInt (n := j1) (by omega)] at t; have : (200 : Int32).toInt = 200 := (by decide); omega
        refine lv_lload hx hb dX10_commonDivisor_45 (lv_at hl 2 rfl) ?_
        have hpost : True := by
          trivial
        refine W.widen (k := 0) (n := 0) (by omega) (by omega) ?_
        exact W.lret (v := y3) hx hb hr (fun t ht hW => ⟨⟨y3, (), rfl, ⟨hpost, trivial⟩, trivial⟩, hS.F ht⟩) hS.2.2 dX10_commonDivisor_47
      · skip
        have n9 : j1 < 200 := by have t := nleI c7; rw [nI_toInt (n := j1) (by omega)] at t; have : (200 : Int32).toInt = 200 := (by decide); omega
        refine lv_lload hx hb dX10_commonDivisor_17 (lv_at hl 1 rfl) ?_
        refine lv_lconst (v := 0) hx hb dX10_commonDivisor_19 (by decide) ?_
        refine W.lcmp hx hb dX10_commonDivisor_20 ?_
        refine lv_if_eq (tgt := 45) hx hb dX10_commonDivisor_21 (by decide) (fun c10 => ?_) (fun c10 => ?_)
        · skip
          refine lv_lload hx hb dX10_commonDivisor_45 (lv_at hl 2 rfl) ?_
          have hpost : True := by
            trivial
          refine W.widen (k := 0) (n := 0) (by omega) (by omega) ?_
          exact W.lret (v := y3) hx hb hr (fun t ht hW => ⟨⟨y3, (), rfl, ⟨hpost, trivial⟩, trivial⟩, hS.F ht⟩) hS.2.2 dX10_commonDivisor_47
        · skip
          refine lv_lload hx hb dX10_commonDivisor_24 (lv_at hl 2 rfl) ?_
          refine lv_lload hx hb dX10_commonDivisor_26 (lv_at hl 1 rfl) ?_
          refine lv_lrem hx hb dX10_commonDivisor_28 (by intro h0; have t0 := congrArg Int64.toInt h0; have z0 : (0 : Int64).toInt = 0 := (by decide); have t_hj6 := hj6; have t_n9 := n9; have t_c10 := lcm_eq_f c10; have : (0 : Int64).toInt = 0 := (by decide); have t_n0 : (nI j1).toInt = (j1 : Int) := nI_toInt (by omega); omega) ?_
          refine lv_lstore (lv' := [(9, .long (y3 - y3 / y2 * y2)), (8, .int (nI j1)), (6, .long y2), (4, .long y3), (0, .long v), (2, .long q1)]) hx hb dX10_commonDivisor_29 hl (by decide) rfl (fun ls hl => ?_)
          refine lv_lload hx hb dX10_commonDivisor_31 (lv_at hl 2 rfl) ?_
          refine lv_lstore (lv' := [(4, .long y2), (9, .long (y3 - y3 / y2 * y2)), (8, .int (nI j1)), (6, .long y2), (0, .long v), (2, .long q1)]) hx hb dX10_commonDivisor_33 hl (by decide) rfl (fun ls hl => ?_)
          refine lv_lload hx hb dX10_commonDivisor_35 (lv_at hl 1 rfl) ?_
          refine lv_lstore (lv' := [(6, .long (y3 - y3 / y2 * y2)), (4, .long y2), (9, .long (y3 - y3 / y2 * y2)), (8, .int (nI j1)), (0, .long v), (2, .long q1)]) hx hb dX10_commonDivisor_37 hl (by decide) rfl (fun ls hl => ?_)
          refine lv_iinc (v := nI (j1 + 1)) (lv' := [(8, .int (nI (j1 + 1))), (6, .long (y3 - y3 / y2 * y2)), (4, .long y2), (9, .long (y3 - y3 / y2 * y2)), (0, .long v), (2, .long q1)]) hx hb dX10_commonDivisor_39 hl (k := 3) rfl (by rw [show Int32.ofInt 1 = nI 1 from by decide]; exact nI_add _ _) (by decide) rfl (fun ls hl => ?_)
          refine lv_goto (tgt := 9) hx hb dX10_commonDivisor_42 (by decide) ?_
          exact ih9_4 (j1 + 1) (by omega) (by omega) (y3 - y3 / y2 * y2) y2 _ _ hP hS ls (lv_sub hl [0, 1, 2, 4, 5] rfl)
  exact loop9_4 (200 + 1) 0 (by omega) (by omega) q1 v _ _ hP hS ls (lv_sub hl [0, 1, 2, 3, 4] rfl)

set_option maxHeartbeats 1000000 in
set_option maxRecDepth 100000 in
theorem c_X10_fraction (l : Launch) (dC : Nat → ClassId) (dI : Nat → Nat → Nat) (G : Nat → ClassId) (sz : Nat) (i : Int32) (v q1 : Int64)  : Met l yX10_fraction (Cond.code yX10_fraction cX10_fraction 7 (some .long) :: GT) ({ frames := 1, cells := 0, slots := 0, locals := 30 } : Room) (PcR [.long v, .long q1, .int i] dC dI G [] sz) (va_Ql (fun (r : Int64) (u : Unit) => match u with | _ => (True) ∧ True) (fun _ _ => True) (fun q : Nat => sz ≤ q)) 0 0 (fun q : Nat => sz ≤ q) := by
  refine Met.ofW (cc := cX10_fraction) (maxL := 7) (ret := (some .long)) (by decide) rfl ?_
  intro p e s m args below meth c s₁ Bd hml hv
  obtain ⟨rfl, hsz, hP, hK⟩ := hv
  have hx := Bd.exec
  have hb := Bd.bytes
  have hr := Bd.returns
  have hg : ∀ w ∈ GT, w.before ([.long v, .long q1, .int i] : List Value).toArray s = true := fun w h => atoms_spec (ws := Cond.code yX10_fraction cX10_fraction 7 (some .long) :: GT) Bd.pre w (List.mem_cons_of_mem _ h)
  have hown : s.vm.findClass RX10 = some m.cls := findClass_of_methodNamed Bd.named
  have hlocks := Bd.notSynchronized
  subst hsz
  have hA : ∀ q : Nat, s.heap.size ≤ q → (fun q : Nat => s.heap.size ≤ q) q := fun _ h => h
  have hS : va_S (fun q : Nat => s.heap.size ≤ q) s.heap s.heap [] := va_S.rf
  have hl := lv_entry ([.long v, .long q1, .int i]) (n := 7) (Nat.le_of_ble_eq_true rfl)
  rw [lg_entry_eq]
  generalize (lg_sl ([.long v, .long q1, .int i]) ++ List.replicate (7 - (lg_sl ([.long v, .long q1, .int i])).length) Slot.unset).toArray = ls at hl ⊢
  have hl : lv_has ls 7 [(0, .long v), (2, .long q1), (4, .int i)] := hl
  refine lv_lload_n hx hb dX10_fraction_0 rfl (lv_at hl 0 rfl) ?_
  refine lv_lload_n hx hb dX10_fraction_1 rfl (lv_at hl 1 rfl) ?_
  have hPc := hP.sub (ws' := []) [] rfl
  refine va_calll (va_runS (As := [.long v, .long q1]) (rest := []) ⟨hx, hb, hml, hown, hg⟩ (c_X10_commonDivisor l dC dI G _ v q1 ) (kwS hg mfX10_commonDivisor wt_638 ⟨Nat.le_of_ble_eq_true rfl, Nat.le_of_ble_eq_true rfl⟩) (preSR hK hPc) rfl rfl hl.1 rfl (lv_room (Nat.le_of_ble_eq_true rfl)) dX10_fraction_2 ⟨Nat.le_of_ble_eq_true rfl, Nat.le_of_ble_eq_true rfl⟩) hS (fun q h1 h2 => absurd h2 (Nat.not_le.mpr h1)) (fun q h => hA q (Nat.le_trans hS.1 h)) (fun r1 ur1 t H1 locs ht hvm w2 hB hz1 hk1 hS => ?_)
  have hP := keepR hP hk1
  obtain ⟨w2, w2x⟩ := w2
  refine lv_lstore (lv' := [(5, .long r1), (0, .long v), (2, .long q1), (4, .int i)]) hx hb dX10_fraction_5 hl (by decide) rfl (fun ls hl => ?_)
  refine lv_lload hx hb dX10_fraction_7 (lv_at hl 0 rfl) ?_
  refine lv_lconst (v := 0) hx hb dX10_fraction_9 (by decide) ?_
  refine W.lcmp hx hb dX10_fraction_10 ?_
  refine lv_if_ne (tgt := 18) hx hb dX10_fraction_11 (by decide) (fun c3 => ?_) (fun c3 => ?_)
  · skip
    refine lv_iload hx hb dX10_fraction_18 (lv_at hl 3 rfl) ?_
    refine lv_if_ne (tgt := 27) hx hb dX10_fraction_20 (by decide) (fun c4 => ?_) (fun c4 => ?_)
    · skip
      refine lv_lload_n hx hb dX10_fraction_27 rfl (lv_at hl 2 rfl) ?_
      refine lv_lload hx hb dX10_fraction_28 (lv_at hl 0 rfl) ?_
      refine lv_ldiv hx hb dX10_fraction_30 (by intro h0; have t0 := congrArg Int64.toInt h0; have z0 : (0 : Int64).toInt = 0 := (by decide); have t_c3 := lcm_ne_t c3; have t_c4 := neI c4; have : (0 : Int32).toInt = 0 := (by decide); have : (0 : Int64).toInt = 0 := (by decide); omega) ?_
      have hpost : True := by
        trivial
      refine W.widen (k := 0) (n := 0) (by omega) (by omega) ?_
      exact W.lret (v := q1 / r1) hx hb hr (fun t ht hW => ⟨⟨q1 / r1, (), rfl, ⟨hpost, trivial⟩, trivial⟩, hS.F ht⟩) hS.2.2 dX10_fraction_31
    · skip
      refine lv_lload_n hx hb dX10_fraction_23 rfl (lv_at hl 1 rfl) ?_
      refine lv_goto (tgt := 28) hx hb dX10_fraction_24 (by decide) ?_
      refine lv_lload hx hb dX10_fraction_28 (lv_at hl 0 rfl) ?_
      refine lv_ldiv hx hb dX10_fraction_30 (by intro h0; have t0 := congrArg Int64.toInt h0; have z0 : (0 : Int64).toInt = 0 := (by decide); have t_c3 := lcm_ne_t c3; have t_c4 := eqI c4; have : (0 : Int32).toInt = 0 := (by decide); have : (0 : Int64).toInt = 0 := (by decide); omega) ?_
      have hpost : True := by
        trivial
      refine W.widen (k := 0) (n := 0) (by omega) (by omega) ?_
      exact W.lret (v := v / r1) hx hb hr (fun t ht hW => ⟨⟨v / r1, (), rfl, ⟨hpost, trivial⟩, trivial⟩, hS.F ht⟩) hS.2.2 dX10_fraction_31
  · skip
    refine lv_ldc2 (v := (-1)) hx hb hown (hg _ wt_607) dX10_fraction_14 ?_
    have hpost : True := by
      trivial
    refine W.widen (k := 0) (n := 0) (by omega) (by omega) ?_
    exact W.lret (v := (-1)) hx hb hr (fun t ht hW => ⟨⟨(-1), (), rfl, ⟨hpost, trivial⟩, trivial⟩, hS.F ht⟩) hS.2.2 dX10_fraction_17
