set_option maxHeartbeats 1000000 in
set_option maxRecDepth 100000 in
theorem c_J1_charAtE (l : Launch) (dC : Nat → ClassId) (dI : Nat → Nat → Nat) (G : Nat → ClassId) (sz : Nat) (i k : Nat) (adK adV : Nat → Nat) (hi : i < 10) (hk0 : k < strLen.getD i 0) : Met l yJ1_charAt_3b067 (Cond.code yJ1_charAt_3b067 cJ1_charAt_3b067 2 (some .char) :: GT) ({ frames := 2, cells := 0, slots := 0, locals := 43 } : Room) (PcRS [.ref (adV i), .int (nI k)] dC dI G [] adK adV sz) (va_Qi (fun (r : Int32) (u : Unit) => match u with | _ => (r = (strByt.getD i []).getD k 0 &&& 255) ∧ True) (fun _ _ => True) (fun q : Nat => sz ≤ q)) 0 0 (fun q : Nat => sz ≤ q) := by
  refine va_MetF (cc := cJ1_charAt_3b067) (maxL := 2) (ret := (some .char)) (by decide +kernel) rfl ?_
  intro p e s m args below meth c s₁ Bd hml hv
  obtain ⟨rfl, hsz, hP, hK, hSS⟩ := hv
  have hx := Bd.exec
  have hb := Bd.bytes
  have hr := Bd.returns
  have hg : ∀ w ∈ GT, w.before ([.ref (adV i), .int (nI k)] : List Value).toArray s = true := fun w h => atoms_spec (ws := Cond.code yJ1_charAt_3b067 cJ1_charAt_3b067 2 (some .char) :: GT) Bd.pre w (List.mem_cons_of_mem _ h)
  have hown : s.vm.findClass RJ1 = some m.cls := findClass_of_methodNamed Bd.named
  have hlocks := Bd.notSynchronized
  subst hsz
  have hA : ∀ q : Nat, s.heap.size ≤ q → (fun q : Nat => s.heap.size ≤ q) q := fun _ h => h
  have hS : va_S (fun q : Nat => s.heap.size ≤ q) s.heap s.heap [] := va_S.rf
  have hl := lv_entry ([.ref (adV i), .int (nI k)]) (n := 2) (Nat.le_of_ble_eq_true rfl)
  rw [lg_entry_eq]
  generalize (lg_sl ([.ref (adV i), .int (nI k)]) ++ List.replicate (2 - (lg_sl ([.ref (adV i), .int (nI k)])).length) Slot.unset).toArray = ls at hl ⊢
  have hl : lv_has ls 2 [(0, .ref (adV i)), (1, .int (nI k))] := hl
  have hL := strLen_le i
  refine lv_iload_n hx hb dJ1_charAt_3b067_0 rfl (lv_at hl 1 rfl) ?_
  refine lv_aload_n hx hb dJ1_charAt_3b067_1 rfl (lv_at hl 0 rfl) ?_
  refine va_tlen (v := nI (strLen.getD i 0)) hx hb (hSS.1.1 i (by omega)).2.2.2 hS rfl dJ1_charAt_3b067_2 ?_
  have hPc := hP.sub (ws' := []) [] rfl
  refine va_callv (va_runS (As := [.int (nI k), .int (nI (strLen.getD i 0))]) (rest := []) ⟨hx, hb, hml, hown, hg⟩ (c_J0_checkIndex_df160 l dC dI G _ k (strLen.getD i 0) adK adV (by have t_n0 : (nI k).toInt = (k : Int) := nI_toInt (by omega); omega) (by have t_n0 : (nI k).toInt = (k : Int) := nI_toInt (by omega); omega)) (kwS hg mfJ0_checkIndex_df160 wt_424 ⟨Nat.le_of_ble_eq_true rfl, Nat.le_of_ble_eq_true rfl⟩) (preSRS hK hPc hSS hS (fun q h => hA q (Nat.le_trans hS.1 h))) rfl rfl hl.1 rfl (lv_room (Nat.le_of_ble_eq_true rfl)) dJ1_charAt_3b067_3 ⟨Nat.le_of_ble_eq_true rfl, Nat.le_of_ble_eq_true rfl⟩) hS (fun q h1 h2 => absurd h2 (Nat.not_le.mpr h1)) (fun q h => hA q (Nat.le_trans hS.1 h)) (fun ur1 t H1 locs ht hvm w2 hB hz1 hk1 hS => ?_)
  have hP := keepR hP hk1
  refine lv_aload_n hx hb dJ1_charAt_3b067_6 rfl (lv_at hl 0 rfl) ?_
  refine lv_iload_n hx hb dJ1_charAt_3b067_7 rfl (lv_at hl 1 rfl) ?_
  refine va_tb hx hb (hSS.1.1 i (by omega)).2.2.2 hS (vp_in_nI (by omega) (by omega)) rfl dJ1_charAt_3b067_8 ?_
  refine lv_topi (fun v3 ev3 => ?_)
  refine lv_sipush (v := 255) hx hb dJ1_charAt_3b067_9 (by decide) ?_
  refine lv_iand hx hb dJ1_charAt_3b067_12 ?_
  refine lv_i2c (v := v3 &&& 255) hx hb dJ1_charAt_3b067_13 (sc_c2 _) ?_
  have hpost : (v3 &&& 255 : Int32) = (strByt.getD i []).getD k 0 &&& 255 := by
    rw [ev3, nI_clamp (by omega)]
  refine W.widen (k := 0) (n := 0) (by omega) (by omega) ?_
  exact W.zret (v := v3 &&& 255) hx hb hr (by first | rfl | decide | exact sc_nar _) (fun t ht hW => ⟨⟨v3 &&& 255, (), rfl, ⟨hpost, trivial⟩, trivial⟩, hS.F ht⟩) hS.2.2 dJ1_charAt_3b067_14

set_option maxHeartbeats 1000000 in
set_option maxRecDepth 100000 in
theorem c_J0_charAtE (l : Launch) (dC : Nat → ClassId) (dI : Nat → Nat → Nat) (G : Nat → ClassId) (sz : Nat) (i k : Nat) (adK adV : Nat → Nat) (hi : i < 10) (hk0 : k < strLen.getD i 0) : Met l yJ0_charAt_5068e (Cond.code yJ0_charAt_5068e cJ0_charAt_5068e 2 (some .char) :: GT) ({ frames := 3, cells := 0, slots := 0, locals := 64 } : Room) (PcRS [.ref (adK i), .int (nI k)] dC dI G [] adK adV sz) (va_Qi (fun (r : Int32) (u : Unit) => match u with | _ => (r = (strByt.getD i []).getD k 0 &&& 255) ∧ True) (fun _ _ => True) (fun q : Nat => sz ≤ q)) 0 0 (fun q : Nat => sz ≤ q) := by
  refine va_MetF (cc := cJ0_charAt_5068e) (maxL := 2) (ret := (some .char)) (by decide +kernel) rfl ?_
  intro p e s m args below meth c s₁ Bd hml hv
  obtain ⟨rfl, hsz, hP, hK, hSS⟩ := hv
  have hx := Bd.exec
  have hb := Bd.bytes
  have hr := Bd.returns
  have hg : ∀ w ∈ GT, w.before ([.ref (adK i), .int (nI k)] : List Value).toArray s = true := fun w h => atoms_spec (ws := Cond.code yJ0_charAt_5068e cJ0_charAt_5068e 2 (some .char) :: GT) Bd.pre w (List.mem_cons_of_mem _ h)
  have hown : s.vm.findClass RJ0 = some m.cls := findClass_of_methodNamed Bd.named
  have hlocks := Bd.notSynchronized
  subst hsz
  have hA : ∀ q : Nat, s.heap.size ≤ q → (fun q : Nat => s.heap.size ≤ q) q := fun _ h => h
  have hS : va_S (fun q : Nat => s.heap.size ≤ q) s.heap s.heap [] := va_S.rf
  have hl := lv_entry ([.ref (adK i), .int (nI k)]) (n := 2) (Nat.le_of_ble_eq_true rfl)
  rw [lg_entry_eq]
  generalize (lg_sl ([.ref (adK i), .int (nI k)]) ++ List.replicate (2 - (lg_sl ([.ref (adK i), .int (nI k)])).length) Slot.unset).toArray = ls at hl ⊢
  have hl : lv_has ls 2 [(0, .ref (adK i)), (1, .int (nI k))] := hl
  have hL := strLen_le i
  refine lv_aload_n hx hb dJ0_charAt_5068e_0 rfl (lv_at hl 0 rfl) ?_
  have hPc := hP.sub (ws' := []) [] rfl
  refine va_calli (va_runV (As := []) (rest := []) ⟨hx, hb, hml, hown, hg⟩ (c_J0_isLatin1_aae02 l dC dI G _ i adK adV (by have t_n0 : (nI k).toInt = (k : Int) := nI_toInt (by omega); omega)) (kwV hg mfJ0_isLatin1_aae02 wt_417 ⟨Nat.le_of_ble_eq_true rfl, Nat.le_of_ble_eq_true rfl⟩) (preVX hK hPc (i := i) (by omega) hSS hS (fun q h => hA q (Nat.le_trans hS.1 h))) rfl rfl hl.1 rfl (lv_room (Nat.le_of_ble_eq_true rfl)) dJ0_charAt_5068e_1 ⟨Nat.le_of_ble_eq_true rfl, Nat.le_of_ble_eq_true rfl⟩) hS (fun q h1 h2 => absurd h2 (Nat.not_le.mpr h1)) (fun q h => hA q (Nat.le_trans hS.1 h)) (fun r1 ur1 t H1 locs ht hvm w2 hB hz1 hk1 hS => ?_)
  have hP := keepR hP hk1
  obtain ⟨w2, w2x⟩ := w2
  subst w2
  refine lv_if_eq (tgt := 16) hx hb dJ0_charAt_5068e_4 (by decide) (fun c3 => ?_) (fun c3 => ?_)
  · skip
    exact absurd c3 (by decide)
  · skip
    refine lv_aload_n hx hb dJ0_charAt_5068e_7 rfl (lv_at hl 0 rfl) ?_
    refine va_getS hx hb (hSS.1.1 i (by omega)).2.2.1 hS hown (hg _ wt_1277) (fun _ h9 => h9) dJ0_charAt_5068e_8 ?_
    refine lv_iload_n hx hb dJ0_charAt_5068e_11 rfl (lv_at hl 1 rfl) ?_
    have hPc := hP.sub (ws' := []) [] rfl
    refine va_calli (va_runS (As := [.ref (adV i), .int (nI k)]) (rest := []) ⟨hx, hb, hml, hown, hg⟩ (c_J1_charAtE l dC dI G _ i k adK adV (by have t_c3 := neI c3; have : (0 : Int32).toInt = 0 := (by decide); have : (1 : Int32).toInt = 1 := (by decide); have t_n0 : (nI k).toInt = (k : Int) := nI_toInt (by omega); omega) (by have t_c3 := neI c3; have : (0 : Int32).toInt = 0 := (by decide); have : (1 : Int32).toInt = 1 := (by decide); have t_n0 : (nI k).toInt = (k : Int) := nI_toInt (by omega); omega)) (kwS hg mfJ1_charAt_3b067 wt_421 ⟨Nat.le_of_ble_eq_true rfl, Nat.le_of_ble_eq_true rfl⟩) (preSRS hK hPc hSS hS (fun q h => hA q (Nat.le_trans hS.1 h))) rfl rfl hl.1 rfl (lv_room (Nat.le_of_ble_eq_true rfl)) dJ0_charAt_5068e_12 ⟨Nat.le_of_ble_eq_true rfl, Nat.le_of_ble_eq_true rfl⟩) hS (fun q h1 h2 => absurd h2 (Nat.not_le.mpr h1)) (fun q h => hA q (Nat.le_trans hS.1 h)) (fun r4 ur4 t H1 locs ht hvm w5 hB hz1 hk1 hS => ?_)
    have hP := keepR hP hk1
    obtain ⟨w5, w5x⟩ := w5
    subst w5
    have hpost : ((strByt.getD i []).getD k 0 &&& 255 : Int32) = (strByt.getD i []).getD k 0 &&& 255 := by
      rfl
    refine W.widen (k := 0) (n := 0) (by omega) (by omega) ?_
    exact W.zret (v := (strByt.getD i []).getD k 0 &&& 255) hx hb hr (by first | rfl | decide | exact sc_nar _) (fun t ht hW => ⟨⟨(strByt.getD i []).getD k 0 &&& 255, (), rfl, ⟨hpost, trivial⟩, trivial⟩, hS.F ht⟩) hS.2.2 dJ0_charAt_5068e_15

set_option maxHeartbeats 1000000 in
set_option maxRecDepth 100000 in
theorem c_X7_saysE (l : Launch) (dC : Nat → ClassId) (dI : Nat → Nat → Nat) (G : Nat → ClassId) (sz : Nat) (h0 ta T F P i : Nat) (f : Nat → Int32) (adK adV : Nat → Nat) (hT : T ≤ 320) (hF : F ≤ P) (hP0 : P ≤ T) (hi : i < 10) : Met l yX7_says (Cond.code yX7_says cX7_says 5 (some .boolean) :: GT) ({ frames := 4, cells := 0, slots := 0, locals := 85 } : Room) (PcRS [.ref h0, .int (nI F), .int (nI P), .ref (adK i)] dC dI G [(h0, .inr (7, [.int (nI T), .ref ta])), (ta, .inl (G 0, 320, .inl f))] adK adV sz) (va_Qi (fun (r : Int32) (u : Unit) => match u with | _ => (r = if sYs f F P i then 1 else 0) ∧ True) (fun _ _ => True) (fun q : Nat => sz ≤ q)) 0 0 (fun q : Nat => sz ≤ q) := by
  refine Met.ofW (cc := cX7_says) (maxL := 5) (ret := (some .boolean)) (by decide) rfl ?_
  intro p e s m args below meth c s₁ Bd hml hv
  obtain ⟨rfl, hsz, hP, hK, hSS⟩ := hv
  have hx := Bd.exec
  have hb := Bd.bytes
  have hr := Bd.returns
  have hg : ∀ w ∈ GT, w.before ([.ref h0, .int (nI F), .int (nI P), .ref (adK i)] : List Value).toArray s = true := fun w h => atoms_spec (ws := Cond.code yX7_says cX7_says 5 (some .boolean) :: GT) Bd.pre w (List.mem_cons_of_mem _ h)
  have hown : s.vm.findClass RX7 = some m.cls := findClass_of_methodNamed Bd.named
  have hlocks := Bd.notSynchronized
  subst hsz
  have hA : ∀ q : Nat, s.heap.size ≤ q → (fun q : Nat => s.heap.size ≤ q) q := fun _ h => h
  have hS : va_S (fun q : Nat => s.heap.size ≤ q) s.heap s.heap [] := va_S.rf
  have hl := lv_entry ([.ref h0, .int (nI F), .int (nI P), .ref (adK i)]) (n := 5) (Nat.le_of_ble_eq_true rfl)
  rw [lg_entry_eq]
  generalize (lg_sl ([.ref h0, .int (nI F), .int (nI P), .ref (adK i)]) ++ List.replicate (5 - (lg_sl ([.ref h0, .int (nI F), .int (nI P), .ref (adK i)])).length) Slot.unset).toArray = ls at hl ⊢
  have hl : lv_has ls 5 [(0, .ref h0), (1, .int (nI F)), (2, .int (nI P)), (3, .ref (adK i))] := hl
  have hL := strLen_le i
  refine lv_iload_n hx hb dX7_says_0 rfl (lv_at hl 1 rfl) ?_
  refine lv_if_lt (tgt := 22) hx hb dX7_says_1 (by decide) (fun c1 => ?_) (fun c1 => ?_)
  · skip
    have t_c1 := ltI c1
    have : (0 : Int32).toInt = 0 := (by decide)
    have t_n0 : (nI F).toInt = (F : Int) := nI_toInt (by omega)
    have t_n1 : (nI P).toInt = (P : Int) := nI_toInt (by omega)
    have t_n2 : (nI T).toInt = (T : Int) := nI_toInt (by omega)
    exfalso; omega
  · skip
    have n2 : 0 ≤ F := by have t := nltI c1; rw [nI_toInt (n := F) (by omega)] at t; have : (0 : Int32).toInt = 0 := (by decide); omega
    refine lv_iload_n hx hb dX7_says_4 rfl (lv_at hl 2 rfl) ?_
    refine lv_aload_n hx hb dX7_says_5 rfl (lv_at hl 0 rfl) ?_
    refine va_get (D := (dC, dI)) (ci := 7) (v := .int (nI T)) (C := RX7) (T := TX7) (N := 2) hx hb hg inG7 hown hK.1 hP 0 rfl rfl 0 (by decide) (hg _ wt_40) (fun _ h9 => h9) rfl dX7_says_6 ?_
    refine lv_icmp_gt (tgt := 22) hx hb dX7_says_9 (by decide) (fun c3 => ?_) (fun c3 => ?_)
    · skip
      have t_n2 := n2
      have t_c3 := ltI c3
      have t_n0 : (nI F).toInt = (F : Int) := nI_toInt (by omega)
      have t_n1 : (nI P).toInt = (P : Int) := nI_toInt (by omega)
      have t_n2 : (nI T).toInt = (T : Int) := nI_toInt (by omega)
      exfalso; omega
    · skip
      have n4 : P ≤ T := by have t := nltI c3; rw [nI_toInt (n := P) (by omega)] at t; rw [nI_toInt (n := T) (by omega)] at t; omega
      refine lv_iload_n hx hb dX7_says_12 rfl (lv_at hl 2 rfl) ?_
      refine lv_iload_n hx hb dX7_says_13 rfl (lv_at hl 1 rfl) ?_
      refine lv_isub hx hb dX7_says_14 ?_
      refine lv_cg (y := nI (P - F)) (by exact pk_sub (by have t_n2 := n2; have t_n4 := n4; have t_n0 : (nI F).toInt = (F : Int) := nI_toInt (by omega); have t_n1 : (nI P).toInt = (P : Int) := nI_toInt (by omega); have t_n2 : (nI T).toInt = (T : Int) := nI_toInt (by omega); omega)) ?_
      refine lv_aload_n hx hb dX7_says_15 rfl (lv_at hl 3 rfl) ?_
      have hPc := hP.sub (ws' := []) [] rfl
      refine va_calli (va_runV (As := []) (rest := [.int (nI (P - F))]) ⟨hx, hb, hml, hown, hg⟩ (c_J0_length_8abf5 l dC dI G _ i adK adV (by have t_n2 := n2; have t_n4 := n4; have t_n0 : (nI F).toInt = (F : Int) := nI_toInt (by omega); have t_n1 : (nI P).toInt = (P : Int) := nI_toInt (by omega); have t_n2 : (nI T).toInt = (T : Int) := nI_toInt (by omega); omega)) (kwV hg mfJ0_length_8abf5 wt_403 ⟨Nat.le_of_ble_eq_true rfl, Nat.le_of_ble_eq_true rfl⟩) (preVX hK hPc (i := i) (by omega) hSS hS (fun q h => hA q (Nat.le_trans hS.1 h))) rfl rfl hl.1 rfl (lv_room (Nat.le_of_ble_eq_true rfl)) dX7_says_16 ⟨Nat.le_of_ble_eq_true rfl, Nat.le_of_ble_eq_true rfl⟩) hS (fun q h1 h2 => absurd h2 (Nat.not_le.mpr h1)) (fun q h => hA q (Nat.le_trans hS.1 h)) (fun r5 ur5 t H1 locs ht hvm w6 hB hz1 hk1 hS => ?_)
      have hP := keepR hP hk1
      obtain ⟨w6, w6x⟩ := w6
      subst w6
      refine lv_icmp_eq (tgt := 24) hx hb dX7_says_19 (by decide) (fun c7 => ?_) (fun c7 => ?_)
      · skip
        have n8 : (P - F) = (strLen.getD i 0) := by have t := eqI c7; rw [nI_toInt (n := (P - F)) (by omega)] at t; rw [nI_toInt (n := (strLen.getD i 0)) (by omega)] at t; omega
        refine lv_iconst (v := 0) hx hb dX7_says_24 (by decide) ?_
        refine lv_istore (lv' := [(4, .int 0), (0, .ref h0), (1, .int (nI F)), (2, .int (nI P)), (3, .ref (adK i))]) hx hb dX7_says_25 hl (by decide) rfl (fun ls hl => ?_)
        have loop27_10 : ∀ (nf j9 : Nat), (strLen.getD i 0) + 1 ≤ j9 + nf → j9 ≤ (strLen.getD i 0) → ∀ (H : Heap) (locs : List Loc), (∀ q9 : Nat, q9 < j9 → f (F + q9) = (strByt.getD i []).getD q9 0 &&& 255) → va_P (dC, dI) vwCl [(h0, .inr (7, [.int (nI T), .ref ta])), (ta, .inl (G 0, 320, .inl f))] H → va_S (fun q : Nat => s.heap.size ≤ q) s.heap H locs → ∀ (ls : Array Slot), lv_has ls 5 [(4, .int (nI j9)), (0, .ref h0), (1, .int (nI F)), (2, .int (nI P)), (3, .ref (adK i))] → W p l e (headSpec (Cond.code yX7_says cX7_says 5 (some .boolean) :: GT) ({ frames := 4, cells := 0, slots := 0, locals := 85 } : Room)).room s m ([.ref h0, .int (nI F), .int (nI P), .ref (adK i)] : List Value).toArray below meth c H locs 0 0 (MQ below (va_Qi (fun (r : Int32) (u : Unit) => match u with | _ => (r = if sYs f F P i then 1 else 0) ∧ True) (fun _ _ => True) (fun q : Nat => s.heap.size ≤ q)) ([.ref h0, .int (nI F), .int (nI P), .ref (adK i)] : List Value).toArray s 0 0 (fun q : Nat => s.heap.size ≤ q)) (F0 m 27 ls []) := by
          intro nf
          induction nf with
          | zero => intro j9 h1 h2; exact absurd h1 (by omega)
          | succ nf ih27_10 =>
            intro j9 hn11 hj12  H locs hinv hP hS ls hl
            refine lv_iload hx hb dX7_says_27 (lv_at hl 0 rfl) ?_
            refine lv_aload_n hx hb dX7_says_29 rfl (lv_at hl 4 rfl) ?_
            have hPc := hP.sub (ws' := []) [] rfl
            refine va_calli (va_runV (As := []) (rest := [.int (nI j9)]) ⟨hx, hb, hml, hown, hg⟩ (c_J0_length_8abf5 l dC dI G _ i adK adV (by have t_n2 := n2; have t_n4 := n4; have t_n8 := n8; have t_hj12 := hj12; have t_n0 : (nI F).toInt = (F : Int) := nI_toInt (by omega); have t_n1 : (nI P).toInt = (P : Int) := nI_toInt (by omega); have t_n2 : (nI T).toInt = (T : Int) := nI_toInt (by omega); have t_n3 : (nI j9).toInt = (j9 : Int) := nI_toInt (by omega); omega)) (kwV hg mfJ0_length_8abf5 wt_403 ⟨Nat.le_of_ble_eq_true rfl, Nat.le_of_ble_eq_true rfl⟩) (preVX hK hPc (i := i) (by omega) hSS hS (fun q h => hA q (Nat.le_trans hS.1 h))) rfl rfl hl.1 rfl (lv_room (Nat.le_of_ble_eq_true rfl)) dX7_says_30 ⟨Nat.le_of_ble_eq_true rfl, Nat.le_of_ble_eq_true rfl⟩) hS (fun q h1 h2 => absurd h2 (Nat.not_le.mpr h1)) (fun q h => hA q (Nat.le_trans hS.1 h)) (fun r13 ur13 t H1 locs ht hvm w14 hB hz1 hk1 hS => ?_)
            have hP := keepR hP hk1
            obtain ⟨w14, w14x⟩ := w14
            subst w14
            refine lv_icmp_ge (tgt := 62) hx hb dX7_says_33 (by decide) (fun c15 => ?_) (fun c15 => ?_)
            · skip
              have n16 : (strLen.getD i 0) ≤ j9 := by have t := leI c15; rw [nI_toInt (n := j9) (by omega)] at t; rw [nI_toInt (n := (strLen.getD i 0)) (by omega)] at t; omega
              refine lv_iconst (v := 1) hx hb dX7_says_62 (by decide) ?_
              have hpost : (1 : Int32) = if sYs f F P i then 1 else 0 := by
                have t_n2 := n2
                have t_n4 := n4
                have t_n8 := n8
                have t_hj12 := hj12
                have t_n16 := n16
                have t_n0 : (nI F).toInt = (F : Int) := nI_toInt (by omega)
                have t_n1 : (nI P).toInt = (P : Int) := nI_toInt (by omega)
                have t_n2 : (nI T).toInt = (T : Int) := nI_toInt (by omega)
                have t_n3 : (nI j9).toInt = (j9 : Int) := nI_toInt (by omega)
                rw [if_pos ⟨by omega, fun q9 h9 => hinv q9 (by omega)⟩]
              refine W.widen (k := 0) (n := 0) (by omega) (by omega) ?_
              exact W.zret (v := 1) hx hb hr (by first | rfl | decide | exact zn01 (by split <;> simp)) (fun t ht hW => ⟨⟨1, (), rfl, ⟨hpost, trivial⟩, trivial⟩, hS.F ht⟩) hS.2.2 dX7_says_63
            · skip
              have n17 : j9 < (strLen.getD i 0) := by have t := nleI c15; rw [nI_toInt (n := j9) (by omega)] at t; rw [nI_toInt (n := (strLen.getD i 0)) (by omega)] at t; omega
              refine lv_aload_n hx hb dX7_says_36 rfl (lv_at hl 1 rfl) ?_
              refine va_get (D := (dC, dI)) (ci := 7) (v := .ref ta) (C := RX7) (T := TX7) (N := 2) hx hb hg inG7 hown hK.1 hP 0 rfl rfl 1 (by decide) (hg _ wt_43) (fun _ h9 => h9) rfl dX7_says_37 ?_
              refine lv_iload_n hx hb dX7_says_40 rfl (lv_at hl 2 rfl) ?_
              refine lv_iload hx hb dX7_says_41 (lv_at hl 0 rfl) ?_
              refine lv_iadd hx hb dX7_says_43 ?_
              refine lv_cg (y := nI (F + j9)) (by exact nI_add _ _) ?_
              refine va_iald hx hb hK.1 hP 1 0 rfl rfl (vp_in_nI (by have t_n2 := n2; have t_n4 := n4; have t_n8 := n8; have t_hj12 := hj12; have t_n17 := n17; have t_n0 : (nI F).toInt = (F : Int) := nI_toInt (by omega); have t_n1 : (nI P).toInt = (P : Int) := nI_toInt (by omega); have t_n2 : (nI T).toInt = (T : Int) := nI_toInt (by omega); have t_n3 : (nI j9).toInt = (j9 : Int) := nI_toInt (by omega); omega) (by decide)) dX7_says_44 ?_
              refine lv_cg (y := f (F + j9)) (by rw [nI_clamp (by omega)]) ?_
              refine lv_aload_n hx hb dX7_says_45 rfl (lv_at hl 4 rfl) ?_
              refine lv_iload hx hb dX7_says_46 (lv_at hl 0 rfl) ?_
              have hPc := hP.sub (ws' := []) [] rfl
              refine va_calli (va_runV (As := [.int (nI j9)]) (rest := [.int (f (F + j9))]) ⟨hx, hb, hml, hown, hg⟩ (c_J0_charAtE l dC dI G _ i j9 adK adV (by have t_n2 := n2; have t_n4 := n4; have t_n8 := n8; have t_hj12 := hj12; have t_n17 := n17; have t_n0 : (nI F).toInt = (F : Int) := nI_toInt (by omega); have t_n1 : (nI P).toInt = (P : Int) := nI_toInt (by omega); have t_n2 : (nI T).toInt = (T : Int) := nI_toInt (by omega); have t_n3 : (nI j9).toInt = (j9 : Int) := nI_toInt (by omega); omega) (by have t_n2 := n2; have t_n4 := n4; have t_n8 := n8; have t_hj12 := hj12; have t_n17 := n17; have t_n0 : (nI F).toInt = (F : Int) := nI_toInt (by omega); have t_n1 : (nI P).toInt = (P : Int) := nI_toInt (by omega); have t_n2 : (nI T).toInt = (T : Int) := nI_toInt (by omega); have t_n3 : (nI j9).toInt = (j9 : Int) := nI_toInt (by omega); omega)) (kwV hg mfJ0_charAt_5068e wt_413 ⟨Nat.le_of_ble_eq_true rfl, Nat.le_of_ble_eq_true rfl⟩) (preVX hK hPc (i := i) (by omega) hSS hS (fun q h => hA q (Nat.le_trans hS.1 h))) rfl rfl hl.1 rfl (lv_room (Nat.le_of_ble_eq_true rfl)) dX7_says_48 ⟨Nat.le_of_ble_eq_true rfl, Nat.le_of_ble_eq_true rfl⟩) hS (fun q h1 h2 => absurd h2 (Nat.not_le.mpr h1)) (fun q h => hA q (Nat.le_trans hS.1 h)) (fun r18 ur18 t H1 locs ht hvm w19 hB hz1 hk1 hS => ?_)
              have hP := keepR hP hk1
              obtain ⟨w19, w19x⟩ := w19
              subst w19
              refine lv_icmp_eq (tgt := 56) hx hb dX7_says_51 (by decide) (fun c20 => ?_) (fun c20 => ?_)
              · skip
                refine lv_iinc (v := nI (j9 + 1)) (lv' := [(4, .int (nI (j9 + 1))), (0, .ref h0), (1, .int (nI F)), (2, .int (nI P)), (3, .ref (adK i))]) hx hb dX7_says_56 hl (k := 0) rfl (by rw [show Int32.ofInt 1 = nI 1 from by decide]; exact nI_add _ _) (by decide) rfl (fun ls hl => ?_)
                refine lv_goto (tgt := 27) hx hb dX7_says_59 (by decide) ?_
                exact ih27_10 (j9 + 1) (by omega) (by omega)  _ _ (fun q9 h9 => by by_cases e9 : q9 = j9; (subst e9; assumption); exact hinv q9 (by omega)) hP hS ls (lv_sub hl [0, 1, 2, 3, 4] rfl)
              · skip
                refine lv_iconst (v := 0) hx hb dX7_says_54 (by decide) ?_
                have hpost : (0 : Int32) = if sYs f F P i then 1 else 0 := by
                  have t_n2 := n2
                  have t_n4 := n4
                  have t_n8 := n8
                  have t_hj12 := hj12
                  have t_n17 := n17
                  have t_c20 := neI c20
                  have t_n0 : (nI F).toInt = (F : Int) := nI_toInt (by omega)
                  have t_n1 : (nI P).toInt = (P : Int) := nI_toInt (by omega)
                  have t_n2 : (nI T).toInt = (T : Int) := nI_toInt (by omega)
                  have t_n3 : (nI j9).toInt = (j9 : Int) := nI_toInt (by omega)
                  first | rw [if_neg (fun h9 => absurd h9.1 (by omega))] | rw [if_neg (fun h9 => absurd (h9.2 j9 (by omega)) (by assumption))]
                refine W.widen (k := 0) (n := 0) (by omega) (by omega) ?_
                exact W.zret (v := 0) hx hb hr (by first | rfl | decide | exact zn01 (by split <;> simp)) (fun t ht hW => ⟨⟨0, (), rfl, ⟨hpost, trivial⟩, trivial⟩, hS.F ht⟩) hS.2.2 dX7_says_55
        exact loop27_10 ((strLen.getD i 0) + 1) 0 (by omega) (by omega)  _ _ (fun q9 h9 => absurd h9 (Nat.not_lt_zero _)) hP hS ls (lv_sub hl [0, 1, 2, 3, 4] rfl)
      · skip
        have n21 : (P - F) ≠ (strLen.getD i 0) := by have t := neI c7; rw [nI_toInt (n := (P - F)) (by omega)] at t; rw [nI_toInt (n := (strLen.getD i 0)) (by omega)] at t; omega
        refine lv_iconst (v := 0) hx hb dX7_says_22 (by decide) ?_
        have hpost : (0 : Int32) = if sYs f F P i then 1 else 0 := by
          have t_n2 := n2
          have t_n4 := n4
          have t_n21 := n21
          have t_n0 : (nI F).toInt = (F : Int) := nI_toInt (by omega)
          have t_n1 : (nI P).toInt = (P : Int) := nI_toInt (by omega)
          have t_n2 : (nI T).toInt = (T : Int) := nI_toInt (by omega)
          rw [if_neg (fun h9 => absurd h9.1 (by omega))]
        refine W.widen (k := 0) (n := 0) (by omega) (by omega) ?_
        exact W.zret (v := 0) hx hb hr (by first | rfl | decide | exact zn01 (by split <;> simp)) (fun t ht hW => ⟨⟨0, (), rfl, ⟨hpost, trivial⟩, trivial⟩, hS.F ht⟩) hS.2.2 dX7_says_23

set_option maxHeartbeats 1000000 in
set_option maxRecDepth 100000 in
theorem c_X5_isNameE (l : Launch) (dC : Nat → ClassId) (dI : Nat → Nat → Nat) (G : Nat → ClassId) (sz : Nat) (h0 tp td ta T F P i : Nat) (x0 x1 x2 x3 x6 x7 x8 x9 : Int32) (f : Nat → Int32) (adK adV : Nat → Nat) (hT : T ≤ 320) (hF : F ≤ P) (hP0 : P ≤ T) (hi : i < 10) : Met l yX5_isName (Cond.code yX5_isName cX5_isName 2 (some .boolean) :: GT) ({ frames := 5, cells := 0, slots := 0, locals := 109 } : Room) (PcRS [.ref h0, .ref (adK i)] dC dI G [(h0, .inr (5, [.ref tp, .ref td, .int x0, .int x1, .int x2, .int x3, .int (nI F), .int (nI P), .int x6, .int x7, .int x8, .int x9])), (tp, .inr (7, [.int (nI T), .ref ta])), (ta, .inl (G 0, 320, .inl f))] adK adV sz) (va_Qi (fun (r : Int32) (u : Unit) => match u with | _ => (r = isN f F P x3 i) ∧ True) (fun _ _ => True) (fun q : Nat => sz ≤ q)) 0 0 (fun q : Nat => sz ≤ q) := by
  refine Met.ofW (cc := cX5_isName) (maxL := 2) (ret := (some .boolean)) (by decide) rfl ?_
  intro p e s m args below meth c s₁ Bd hml hv
  obtain ⟨rfl, hsz, hP, hK, hSS⟩ := hv
  have hx := Bd.exec
  have hb := Bd.bytes
  have hr := Bd.returns
  have hg : ∀ w ∈ GT, w.before ([.ref h0, .ref (adK i)] : List Value).toArray s = true := fun w h => atoms_spec (ws := Cond.code yX5_isName cX5_isName 2 (some .boolean) :: GT) Bd.pre w (List.mem_cons_of_mem _ h)
  have hown : s.vm.findClass RX5 = some m.cls := findClass_of_methodNamed Bd.named
  have hlocks := Bd.notSynchronized
  subst hsz
  have hA : ∀ q : Nat, s.heap.size ≤ q → (fun q : Nat => s.heap.size ≤ q) q := fun _ h => h
  have hS : va_S (fun q : Nat => s.heap.size ≤ q) s.heap s.heap [] := va_S.rf
  have hl := lv_entry ([.ref h0, .ref (adK i)]) (n := 2) (Nat.le_of_ble_eq_true rfl)
  rw [lg_entry_eq]
  generalize (lg_sl ([.ref h0, .ref (adK i)]) ++ List.replicate (2 - (lg_sl ([.ref h0, .ref (adK i)])).length) Slot.unset).toArray = ls at hl ⊢
  have hl : lv_has ls 2 [(0, .ref h0), (1, .ref (adK i))] := hl
  refine lv_aload_n hx hb dX5_isName_0 rfl (lv_at hl 0 rfl) ?_
  refine va_get (D := (dC, dI)) (ci := 5) (v := .int x3) (C := RX5) (T := TX5) (N := 12) hx hb hg inG5 hown hK.1 hP 0 rfl rfl 5 (by decide) (hg _ wt_115) (fun _ h9 => h9) rfl dX5_isName_1 ?_
  refine lv_iconst (v := 1) hx hb dX5_isName_4 (by decide) ?_
  refine lv_icmp_ne (tgt := 31) hx hb dX5_isName_5 (by decide) (fun c1 => ?_) (fun c1 => ?_)
  · skip
    refine lv_iconst (v := 0) hx hb dX5_isName_31 (by decide) ?_
    have hpost : (0 : Int32) = isN f F P x3 i := by
      have t_c1 := neI c1
      have : (1 : Int32).toInt = 1 := (by decide)
      have t_n0 : (nI F).toInt = (F : Int) := nI_toInt (by omega)
      have t_n1 : (nI P).toInt = (P : Int) := nI_toInt (by omega)
      have t_n2 : (nI T).toInt = (T : Int) := nI_toInt (by omega)
      unfold isN
      first | rw [if_neg (by assumption)] | (rw [if_pos (by assumption)]; first | (rw [if_pos (by assumption)]) | (rw [if_neg (by assumption)]) | (split <;> first | rfl | (simp_all; done)))
    refine W.widen (k := 0) (n := 0) (by omega) (by omega) ?_
    exact W.zret (v := 0) hx hb hr (by first | rfl | decide | exact zn01 (by rw [hpost]; unfold isN; split <;> (try split) <;> simp)) (fun t ht hW => ⟨⟨0, (), rfl, ⟨hpost, trivial⟩, trivial⟩, hS.F ht⟩) hS.2.2 dX5_isName_32
  · skip
    refine lv_aload_n hx hb dX5_isName_8 rfl (lv_at hl 0 rfl) ?_
    refine va_get (D := (dC, dI)) (ci := 5) (v := .ref tp) (C := RX5) (T := TX5) (N := 12) hx hb hg inG5 hown hK.1 hP 0 rfl rfl 0 (by decide) (hg _ wt_105) (fun _ h9 => h9) rfl dX5_isName_9 ?_
    refine lv_aload_n hx hb dX5_isName_12 rfl (lv_at hl 0 rfl) ?_
    refine va_get (D := (dC, dI)) (ci := 5) (v := .int (nI F)) (C := RX5) (T := TX5) (N := 12) hx hb hg inG5 hown hK.1 hP 0 rfl rfl 6 (by decide) (hg _ wt_116) (fun _ h9 => h9) rfl dX5_isName_13 ?_
    refine lv_aload_n hx hb dX5_isName_16 rfl (lv_at hl 0 rfl) ?_
    refine va_get (D := (dC, dI)) (ci := 5) (v := .int (nI P)) (C := RX5) (T := TX5) (N := 12) hx hb hg inG5 hown hK.1 hP 0 rfl rfl 7 (by decide) (hg _ wt_117) (fun _ h9 => h9) rfl dX5_isName_17 ?_
    refine lv_aload_n hx hb dX5_isName_20 rfl (lv_at hl 1 rfl) ?_
    have hPc := hP.sub (ws' := [(tp, .inr (7, [.int (nI T), .ref ta])), (ta, .inl (G 0, 320, .inl f))]) [1, 2] rfl
    refine va_calli (va_runVN (As := [.int (nI F), .int (nI P), .ref (adK i)]) (rest := []) ⟨hx, hb, hml, hown, hg⟩ (c_X7_saysE l dC dI G _ tp ta T F P i f adK adV (by have t_c1 := eqI c1; have : (1 : Int32).toInt = 1 := (by decide); have t_n0 : (nI F).toInt = (F : Int) := nI_toInt (by omega); have t_n1 : (nI P).toInt = (P : Int) := nI_toInt (by omega); have t_n2 : (nI T).toInt = (T : Int) := nI_toInt (by omega); omega) (by have t_c1 := eqI c1; have : (1 : Int32).toInt = 1 := (by decide); have t_n0 : (nI F).toInt = (F : Int) := nI_toInt (by omega); have t_n1 : (nI P).toInt = (P : Int) := nI_toInt (by omega); have t_n2 : (nI T).toInt = (T : Int) := nI_toInt (by omega); omega) (by have t_c1 := eqI c1; have : (1 : Int32).toInt = 1 := (by decide); have t_n0 : (nI F).toInt = (F : Int) := nI_toInt (by omega); have t_n1 : (nI P).toInt = (P : Int) := nI_toInt (by omega); have t_n2 : (nI T).toInt = (T : Int) := nI_toInt (by omega); omega) (by have t_c1 := eqI c1; have : (1 : Int32).toInt = 1 := (by decide); have t_n0 : (nI F).toInt = (F : Int) := nI_toInt (by omega); have t_n1 : (nI P).toInt = (P : Int) := nI_toInt (by omega); have t_n2 : (nI T).toInt = (T : Int) := nI_toInt (by omega); omega)) (kwVN hg hK mfX7_says wn_399 ⟨Nat.le_of_ble_eq_true rfl, Nat.le_of_ble_eq_true rfl⟩) (preVRS hK hPc hSS hS (fun q h => hA q (Nat.le_trans hS.1 h)) (ci := 7) rfl rfl) rfl rfl hl.1 rfl (lv_room (Nat.le_of_ble_eq_true rfl)) dX5_isName_21 ⟨Nat.le_of_ble_eq_true rfl, Nat.le_of_ble_eq_true rfl⟩) hS (fun q h1 h2 => absurd h2 (Nat.not_le.mpr h1)) (fun q h => hA q (Nat.le_trans hS.1 h)) (fun r2 ur2 t H1 locs ht hvm w3 hB hz1 hk1 hS => ?_)
    have hP := keepR hP hk1
    obtain ⟨w3, w3x⟩ := w3
    subst w3
    refine lv_if_eq (tgt := 31) hx hb dX5_isName_24 (by decide) (fun c4 => ?_) (fun c4 => ?_)
    · skip
      refine lv_iconst (v := 0) hx hb dX5_isName_31 (by decide) ?_
      have hpost : (0 : Int32) = isN f F P x3 i := by
        have t_c1 := eqI c1
        have t_c4 := eqI c4
        have : (0 : Int32).toInt = 0 := (by decide)
        have : (1 : Int32).toInt = 1 := (by decide)
        have t_n0 : (nI F).toInt = (F : Int) := nI_toInt (by omega)
        have t_n1 : (nI P).toInt = (P : Int) := nI_toInt (by omega)
        have t_n2 : (nI T).toInt = (T : Int) := nI_toInt (by omega)
        unfold isN
        first | rw [if_neg (by assumption)] | (rw [if_pos (by assumption)]; first | (rw [if_pos (by assumption)]) | (rw [if_neg (by assumption)]) | (split <;> first | rfl | (simp_all; done)))
      refine W.widen (k := 0) (n := 0) (by omega) (by omega) ?_
      exact W.zret (v := 0) hx hb hr (by first | rfl | decide | exact zn01 (by rw [hpost]; unfold isN; split <;> (try split) <;> simp)) (fun t ht hW => ⟨⟨0, (), rfl, ⟨hpost, trivial⟩, trivial⟩, hS.F ht⟩) hS.2.2 dX5_isName_32
    · skip
      refine lv_iconst (v := 1) hx hb dX5_isName_27 (by decide) ?_
      refine lv_goto (tgt := 32) hx hb dX5_isName_28 (by decide) ?_
      have hpost : (1 : Int32) = isN f F P x3 i := by
        have t_c1 := eqI c1
        have t_c4 := neI c4
        have : (0 : Int32).toInt = 0 := (by decide)
        have : (1 : Int32).toInt = 1 := (by decide)
        have t_n0 : (nI F).toInt = (F : Int) := nI_toInt (by omega)
        have t_n1 : (nI P).toInt = (P : Int) := nI_toInt (by omega)
        have t_n2 : (nI T).toInt = (T : Int) := nI_toInt (by omega)
        unfold isN
        first | rw [if_neg (by assumption)] | (rw [if_pos (by assumption)]; first | (rw [if_pos (by assumption)]) | (rw [if_neg (by assumption)]) | (split <;> first | rfl | (simp_all; done)))
      refine W.widen (k := 0) (n := 0) (by omega) (by omega) ?_
      exact W.zret (v := 1) hx hb hr (by first | rfl | decide | exact zn01 (by rw [hpost]; unfold isN; split <;> (try split) <;> simp)) (fun t ht hW => ⟨⟨1, (), rfl, ⟨hpost, trivial⟩, trivial⟩, hS.F ht⟩) hS.2.2 dX5_isName_32

set_option maxHeartbeats 1000000 in
set_option maxRecDepth 100000 in
theorem c_X5_kindE (l : Launch) (dC : Nat → ClassId) (dI : Nat → Nat → Nat) (G : Nat → ClassId) (sz : Nat) (h0 tp td ta T F P : Nat) (x0 x1 x2 x3 x6 x7 x8 x9 : Int32) (f : Nat → Int32) (adK adV : Nat → Nat) (hT : T ≤ 320) (hF : F ≤ P) (hP0 : P ≤ T) : Met l yX5_kind (Cond.code yX5_kind cX5_kind 1 (some .int) :: GT) ({ frames := 6, cells := 0, slots := 0, locals := 130 } : Room) (PcRS [.ref h0] dC dI G [(h0, .inr (5, [.ref tp, .ref td, .int x0, .int x1, .int x2, .int x3, .int (nI F), .int (nI P), .int x6, .int x7, .int x8, .int x9])), (tp, .inr (7, [.int (nI T), .ref ta])), (ta, .inl (G 0, 320, .inl f))] adK adV sz) (va_Qi (fun (r : Int32) (u : Unit) => match u with | _ => (r = kdF f F P x3) ∧ True) (fun _ _ => True) (fun q : Nat => sz ≤ q)) 0 0 (fun q : Nat => sz ≤ q) := by
  refine Met.ofW (cc := cX5_kind) (maxL := 1) (ret := (some .int)) (by decide) rfl ?_
  intro p e s m args below meth c s₁ Bd hml hv
  obtain ⟨rfl, hsz, hP, hK, hSS⟩ := hv
  have hx := Bd.exec
  have hb := Bd.bytes
  have hr := Bd.returns
  have hg : ∀ w ∈ GT, w.before ([.ref h0] : List Value).toArray s = true := fun w h => atoms_spec (ws := Cond.code yX5_kind cX5_kind 1 (some .int) :: GT) Bd.pre w (List.mem_cons_of_mem _ h)
  have hown : s.vm.findClass RX5 = some m.cls := findClass_of_methodNamed Bd.named
  have hlocks := Bd.notSynchronized
  subst hsz
  have hA : ∀ q : Nat, s.heap.size ≤ q → (fun q : Nat => s.heap.size ≤ q) q := fun _ h => h
  have hS : va_S (fun q : Nat => s.heap.size ≤ q) s.heap s.heap [] := va_S.rf
  have hl := lv_entry ([.ref h0]) (n := 1) (Nat.le_of_ble_eq_true rfl)
  rw [lg_entry_eq]
  generalize (lg_sl ([.ref h0]) ++ List.replicate (1 - (lg_sl ([.ref h0])).length) Slot.unset).toArray = ls at hl ⊢
  have hl : lv_has ls 1 [(0, .ref h0)] := hl
  refine lv_aload_n hx hb dX5_kind_0 rfl (lv_at hl 0 rfl) ?_
  refine va_ldcS hx hb hown (hSS.2.1 3 _ rfl) dX5_kind_1 ?_
  have hPc := hP.sub (ws' := [(h0, .inr (5, [.ref tp, .ref td, .int x0, .int x1, .int x2, .int x3, .int (nI F), .int (nI P), .int x6, .int x7, .int x8, .int x9])), (tp, .inr (7, [.int (nI T), .ref ta])), (ta, .inl (G 0, 320, .inl f))]) [0, 1, 2] rfl
  refine va_calli (va_runV (As := [.ref (adK 3)]) (rest := []) ⟨hx, hb, hml, hown, hg⟩ (c_X5_isNameE l dC dI G _ h0 tp td ta T F P 3 x0 x1 x2 x3 x6 x7 x8 x9 f adK adV (by have t_n0 : (nI F).toInt = (F : Int) := nI_toInt (by omega); have t_n1 : (nI P).toInt = (P : Int) := nI_toInt (by omega); have t_n2 : (nI T).toInt = (T : Int) := nI_toInt (by omega); omega) (by have t_n0 : (nI F).toInt = (F : Int) := nI_toInt (by omega); have t_n1 : (nI P).toInt = (P : Int) := nI_toInt (by omega); have t_n2 : (nI T).toInt = (T : Int) := nI_toInt (by omega); omega) (by have t_n0 : (nI F).toInt = (F : Int) := nI_toInt (by omega); have t_n1 : (nI P).toInt = (P : Int) := nI_toInt (by omega); have t_n2 : (nI T).toInt = (T : Int) := nI_toInt (by omega); omega) (by have t_n0 : (nI F).toInt = (F : Int) := nI_toInt (by omega); have t_n1 : (nI P).toInt = (P : Int) := nI_toInt (by omega); have t_n2 : (nI T).toInt = (T : Int) := nI_toInt (by omega); omega)) (kwV hg mfX5_isName wt_395 ⟨Nat.le_of_ble_eq_true rfl, Nat.le_of_ble_eq_true rfl⟩) (preVRS hK hPc hSS hS (fun q h => hA q (Nat.le_trans hS.1 h)) (ci := 5) rfl rfl) rfl rfl hl.1 rfl (lv_room (Nat.le_of_ble_eq_true rfl)) dX5_kind_3 ⟨Nat.le_of_ble_eq_true rfl, Nat.le_of_ble_eq_true rfl⟩) hS (fun q h1 h2 => absurd h2 (Nat.not_le.mpr h1)) (fun q h => hA q (Nat.le_trans hS.1 h)) (fun r1 ur1 t H1 locs ht hvm w2 hB hz1 hk1 hS => ?_)
  have hP := keepR hP hk1
  obtain ⟨w2, w2x⟩ := w2
  subst w2
  refine lv_if_eq (tgt := 11) hx hb dX5_kind_6 (by decide) (fun c3 => ?_) (fun c3 => ?_)
  · skip
    refine lv_aload_n hx hb dX5_kind_11 rfl (lv_at hl 0 rfl) ?_
    refine va_ldcS hx hb hown (hSS.2.1 4 _ rfl) dX5_kind_12 ?_
    have hPc := hP.sub (ws' := [(h0, .inr (5, [.ref tp, .ref td, .int x0, .int x1, .int x2, .int x3, .int (nI F), .int (nI P), .int x6, .int x7, .int x8, .int x9])), (tp, .inr (7, [.int (nI T), .ref ta])), (ta, .inl (G 0, 320, .inl f))]) [0, 1, 2] rfl
    refine va_calli (va_runV (As := [.ref (adK 4)]) (rest := []) ⟨hx, hb, hml, hown, hg⟩ (c_X5_isNameE l dC dI G _ h0 tp td ta T F P 4 x0 x1 x2 x3 x6 x7 x8 x9 f adK adV (by have t_c3 := eqI c3; have : (0 : Int32).toInt = 0 := (by decide); have t_n0 : (nI F).toInt = (F : Int) := nI_toInt (by omega); have t_n1 : (nI P).toInt = (P : Int) := nI_toInt (by omega); have t_n2 : (nI T).toInt = (T : Int) := nI_toInt (by omega); omega) (by have t_c3 := eqI c3; have : (0 : Int32).toInt = 0 := (by decide); have t_n0 : (nI F).toInt = (F : Int) := nI_toInt (by omega); have t_n1 : (nI P).toInt = (P : Int) := nI_toInt (by omega); have t_n2 : (nI T).toInt = (T : Int) := nI_toInt (by omega); omega) (by have t_c3 := eqI c3; have : (0 : Int32).toInt = 0 := (by decide); have t_n0 : (nI F).toInt = (F : Int) := nI_toInt (by omega); have t_n1 : (nI P).toInt = (P : Int) := nI_toInt (by omega); have t_n2 : (nI T).toInt = (T : Int) := nI_toInt (by omega); omega) (by have t_c3 := eqI c3; have : (0 : Int32).toInt = 0 := (by decide); have t_n0 : (nI F).toInt = (F : Int) := nI_toInt (by omega); have t_n1 : (nI P).toInt = (P : Int) := nI_toInt (by omega); have t_n2 : (nI T).toInt = (T : Int) := nI_toInt (by omega); omega)) (kwV hg mfX5_isName wt_395 ⟨Nat.le_of_ble_eq_true rfl, Nat.le_of_ble_eq_true rfl⟩) (preVRS hK hPc hSS hS (fun q h => hA q (Nat.le_trans hS.1 h)) (ci := 5) rfl rfl) rfl rfl hl.1 rfl (lv_room (Nat.le_of_ble_eq_true rfl)) dX5_kind_14 ⟨Nat.le_of_ble_eq_true rfl, Nat.le_of_ble_eq_true rfl⟩) hS (fun q h1 h2 => absurd h2 (Nat.not_le.mpr h1)) (fun q h => hA q (Nat.le_trans hS.1 h)) (fun r4 ur4 t H1 locs ht hvm w5 hB hz1 hk1 hS => ?_)
    have hP := keepR hP hk1
    obtain ⟨w5, w5x⟩ := w5
    subst w5
    refine lv_if_eq (tgt := 22) hx hb dX5_kind_17 (by decide) (fun c6 => ?_) (fun c6 => ?_)
    · skip
      refine lv_aload_n hx hb dX5_kind_22 rfl (lv_at hl 0 rfl) ?_
      refine va_ldcS hx hb hown (hSS.2.1 5 _ rfl) dX5_kind_23 ?_
      have hPc := hP.sub (ws' := [(h0, .inr (5, [.ref tp, .ref td, .int x0, .int x1, .int x2, .int x3, .int (nI F), .int (nI P), .int x6, .int x7, .int x8, .int x9])), (tp, .inr (7, [.int (nI T), .ref ta])), (ta, .inl (G 0, 320, .inl f))]) [0, 1, 2] rfl
      refine va_calli (va_runV (As := [.ref (adK 5)]) (rest := []) ⟨hx, hb, hml, hown, hg⟩ (c_X5_isNameE l dC dI G _ h0 tp td ta T F P 5 x0 x1 x2 x3 x6 x7 x8 x9 f adK adV (by have t_c3 := eqI c3; have t_c6 := eqI c6; have : (0 : Int32).toInt = 0 := (by decide); have t_n0 : (nI F).toInt = (F : Int) := nI_toInt (by omega); have t_n1 : (nI P).toInt = (P : Int) := nI_toInt (by omega); have t_n2 : (nI T).toInt = (T : Int) := nI_toInt (by omega); omega) (by have t_c3 := eqI c3; have t_c6 := eqI c6; have : (0 : Int32).toInt = 0 := (by decide); have t_n0 : (nI F).toInt = (F : Int) := nI_toInt (by omega); have t_n1 : (nI P).toInt = (P : Int) := nI_toInt (by omega); have t_n2 : (nI T).toInt = (T : Int) := nI_toInt (by omega); omega) (by have t_c3 := eqI c3; have t_c6 := eqI c6; have : (0 : Int32).toInt = 0 := (by decide); have t_n0 : (nI F).toInt = (F : Int) := nI_toInt (by omega); have t_n1 : (nI P).toInt = (P : Int) := nI_toInt (by omega); have t_n2 : (nI T).toInt = (T : Int) := nI_toInt (by omega); omega) (by have t_c3 := eqI c3; have t_c6 := eqI c6; have : (0 : Int32).toInt = 0 := (by decide); have t_n0 : (nI F).toInt = (F : Int) := nI_toInt (by omega); have t_n1 : (nI P).toInt = (P : Int) := nI_toInt (by omega); have t_n2 : (nI T).toInt = (T : Int) := nI_toInt (by omega); omega)) (kwV hg mfX5_isName wt_395 ⟨Nat.le_of_ble_eq_true rfl, Nat.le_of_ble_eq_true rfl⟩) (preVRS hK hPc hSS hS (fun q h => hA q (Nat.le_trans hS.1 h)) (ci := 5) rfl rfl) rfl rfl hl.1 rfl (lv_room (Nat.le_of_ble_eq_true rfl)) dX5_kind_25 ⟨Nat.le_of_ble_eq_true rfl, Nat.le_of_ble_eq_true rfl⟩) hS (fun q h1 h2 => absurd h2 (Nat.not_le.mpr h1)) (fun q h => hA q (Nat.le_trans hS.1 h)) (fun r7 ur7 t H1 locs ht hvm w8 hB hz1 hk1 hS => ?_)
      have hP := keepR hP hk1
      obtain ⟨w8, w8x⟩ := w8
      subst w8
      refine lv_if_eq (tgt := 33) hx hb dX5_kind_28 (by decide) (fun c9 => ?_) (fun c9 => ?_)
      · skip
        refine lv_aload_n hx hb dX5_kind_33 rfl (lv_at hl 0 rfl) ?_
        refine va_ldcS hx hb hown (hSS.2.1 6 _ rfl) dX5_kind_34 ?_
        have hPc := hP.sub (ws' := [(h0, .inr (5, [.ref tp, .ref td, .int x0, .int x1, .int x2, .int x3, .int (nI F), .int (nI P), .int x6, .int x7, .int x8, .int x9])), (tp, .inr (7, [.int (nI T), .ref ta])), (ta, .inl (G 0, 320, .inl f))]) [0, 1, 2] rfl
        refine va_calli (va_runV (As := [.ref (adK 6)]) (rest := []) ⟨hx, hb, hml, hown, hg⟩ (c_X5_isNameE l dC dI G _ h0 tp td ta T F P 6 x0 x1 x2 x3 x6 x7 x8 x9 f adK adV (by have t_c3 := eqI c3; have t_c6 := eqI c6; have t_c9 := eqI c9; have : (0 : Int32).toInt = 0 := (by decide); have t_n0 : (nI F).toInt = (F : Int) := nI_toInt (by omega); have t_n1 : (nI P).toInt = (P : Int) := nI_toInt (by omega); have t_n2 : (nI T).toInt = (T : Int) := nI_toInt (by omega); omega) (by have t_c3 := eqI c3; have t_c6 := eqI c6; have t_c9 := eqI c9; have : (0 : Int32).toInt = 0 := (by decide); have t_n0 : (nI F).toInt = (F : Int) := nI_toInt (by omega); have t_n1 : (nI P).toInt = (P : Int) := nI_toInt (by omega); have t_n2 : (nI T).toInt = (T : Int) := nI_toInt (by omega); omega) (by have t_c3 := eqI c3; have t_c6 := eqI c6; have t_c9 := eqI c9; have : (0 : Int32).toInt = 0 := (by decide); have t_n0 : (nI F).toInt = (F : Int) := nI_toInt (by omega); have t_n1 : (nI P).toInt = (P : Int) := nI_toInt (by omega); have t_n2 : (nI T).toInt = (T : Int) := nI_toInt (by omega); omega) (by have t_c3 := eqI c3; have t_c6 := eqI c6; have t_c9 := eqI c9; have : (0 : Int32).toInt = 0 := (by decide); have t_n0 : (nI F).toInt = (F : Int) := nI_toInt (by omega); have t_n1 : (nI P).toInt = (P : Int) := nI_toInt (by omega); have t_n2 : (nI T).toInt = (T : Int) := nI_toInt (by omega); omega)) (kwV hg mfX5_isName wt_395 ⟨Nat.le_of_ble_eq_true rfl, Nat.le_of_ble_eq_true rfl⟩) (preVRS hK hPc hSS hS (fun q h => hA q (Nat.le_trans hS.1 h)) (ci := 5) rfl rfl) rfl rfl hl.1 rfl (lv_room (Nat.le_of_ble_eq_true rfl)) dX5_kind_36 ⟨Nat.le_of_ble_eq_true rfl, Nat.le_of_ble_eq_true rfl⟩) hS (fun q h1 h2 => absurd h2 (Nat.not_le.mpr h1)) (fun q h => hA q (Nat.le_trans hS.1 h)) (fun r10 ur10 t H1 locs ht hvm w11 hB hz1 hk1 hS => ?_)
        have hP := keepR hP hk1
        obtain ⟨w11, w11x⟩ := w11
        subst w11
        refine lv_if_eq (tgt := 44) hx hb dX5_kind_39 (by decide) (fun c12 => ?_) (fun c12 => ?_)
        · skip
          refine lv_aload_n hx hb dX5_kind_44 rfl (lv_at hl 0 rfl) ?_
          refine va_ldcS hx hb hown (hSS.2.1 7 _ rfl) dX5_kind_45 ?_
          have hPc := hP.sub (ws' := [(h0, .inr (5, [.ref tp, .ref td, .int x0, .int x1, .int x2, .int x3, .int (nI F), .int (nI P), .int x6, .int x7, .int x8, .int x9])), (tp, .inr (7, [.int (nI T), .ref ta])), (ta, .inl (G 0, 320, .inl f))]) [0, 1, 2] rfl
          refine va_calli (va_runV (As := [.ref (adK 7)]) (rest := []) ⟨hx, hb, hml, hown, hg⟩ (c_X5_isNameE l dC dI G _ h0 tp td ta T F P 7 x0 x1 x2 x3 x6 x7 x8 x9 f adK adV (by have t_c3 := eqI c3; have t_c6 := eqI c6; have t_c9 := eqI c9; have t_c12 := eqI c12; have : (0 : Int32).toInt = 0 := (by decide); have t_n0 : (nI F).toInt = (F : Int) := nI_toInt (by omega); have t_n1 : (nI P).toInt = (P : Int) := nI_toInt (by omega); have t_n2 : (nI T).toInt = (T : Int) := nI_toInt (by omega); omega) (by have t_c3 := eqI c3; have t_c6 := eqI c6; have t_c9 := eqI c9; have t_c12 := eqI c12; have : (0 : Int32).toInt = 0 := (by decide); have t_n0 : (nI F).toInt = (F : Int) := nI_toInt (by omega); have t_n1 : (nI P).toInt = (P : Int) := nI_toInt (by omega); have t_n2 : (nI T).toInt = (T : Int) := nI_toInt (by omega); omega) (by have t_c3 := eqI c3; have t_c6 := eqI c6; have t_c9 := eqI c9; have t_c12 := eqI c12; have : (0 : Int32).toInt = 0 := (by decide); have t_n0 : (nI F).toInt = (F : Int) := nI_toInt (by omega); have t_n1 : (nI P).toInt = (P : Int) := nI_toInt (by omega); have t_n2 : (nI T).toInt = (T : Int) := nI_toInt (by omega); omega) (by have t_c3 := eqI c3; have t_c6 := eqI c6; have t_c9 := eqI c9; have t_c12 := eqI c12; have : (0 : Int32).toInt = 0 := (by decide); have t_n0 : (nI F).toInt = (F : Int) := nI_toInt (by omega); have t_n1 : (nI P).toInt = (P : Int) := nI_toInt (by omega); have t_n2 : (nI T).toInt = (T : Int) := nI_toInt (by omega); omega)) (kwV hg mfX5_isName wt_395 ⟨Nat.le_of_ble_eq_true rfl, Nat.le_of_ble_eq_true rfl⟩) (preVRS hK hPc hSS hS (fun q h => hA q (Nat.le_trans hS.1 h)) (ci := 5) rfl rfl) rfl rfl hl.1 rfl (lv_room (Nat.le_of_ble_eq_true rfl)) dX5_kind_47 ⟨Nat.le_of_ble_eq_true rfl, Nat.le_of_ble_eq_true rfl⟩) hS (fun q h1 h2 => absurd h2 (Nat.not_le.mpr h1)) (fun q h => hA q (Nat.le_trans hS.1 h)) (fun r13 ur13 t H1 locs ht hvm w14 hB hz1 hk1 hS => ?_)
          have hP := keepR hP hk1
          obtain ⟨w14, w14x⟩ := w14
          subst w14
          refine lv_if_eq (tgt := 55) hx hb dX5_kind_50 (by decide) (fun c15 => ?_) (fun c15 => ?_)
          · skip
            refine lv_aload_n hx hb dX5_kind_55 rfl (lv_at hl 0 rfl) ?_
            refine va_ldcS hx hb hown (hSS.2.1 8 _ rfl) dX5_kind_56 ?_
            have hPc := hP.sub (ws' := [(h0, .inr (5, [.ref tp, .ref td, .int x0, .int x1, .int x2, .int x3, .int (nI F), .int (nI P), .int x6, .int x7, .int x8, .int x9])), (tp, .inr (7, [.int (nI T), .ref ta])), (ta, .inl (G 0, 320, .inl f))]) [0, 1, 2] rfl
            refine va_calli (va_runV (As := [.ref (adK 8)]) (rest := []) ⟨hx, hb, hml, hown, hg⟩ (c_X5_isNameE l dC dI G _ h0 tp td ta T F P 8 x0 x1 x2 x3 x6 x7 x8 x9 f adK adV (by have t_c3 := eqI c3; have t_c6 := eqI c6; have t_c9 := eqI c9; have t_c12 := eqI c12; have t_c15 := eqI c15; have : (0 : Int32).toInt = 0 := (by decide); have t_n0 : (nI F).toInt = (F : Int) := nI_toInt (by omega); have t_n1 : (nI P).toInt = (P : Int) := nI_toInt (by omega); have t_n2 : (nI T).toInt = (T : Int) := nI_toInt (by omega); omega) (by have t_c3 := eqI c3; have t_c6 := eqI c6; have t_c9 := eqI c9; have t_c12 := eqI c12; have t_c15 := eqI c15; have : (0 : Int32).toInt = 0 := (by decide); have t_n0 : (nI F).toInt = (F : Int) := nI_toInt (by omega); have t_n1 : (nI P).toInt = (P : Int) := nI_toInt (by omega); have t_n2 : (nI T).toInt = (T : Int) := nI_toInt (by omega); omega) (by have t_c3 := eqI c3; have t_c6 := eqI c6; have t_c9 := eqI c9; have t_c12 := eqI c12; have t_c15 := eqI c15; have : (0 : Int32).toInt = 0 := (by decide); have t_n0 : (nI F).toInt = (F : Int) := nI_toInt (by omega); have t_n1 : (nI P).toInt = (P : Int) := nI_toInt (by omega); have t_n2 : (nI T).toInt = (T : Int) := nI_toInt (by omega); omega) (by have t_c3 := eqI c3; have t_c6 := eqI c6; have t_c9 := eqI c9; have t_c12 := eqI c12; have t_c15 := eqI c15; have : (0 : Int32).toInt = 0 := (by decide); have t_n0 : (nI F).toInt = (F : Int) := nI_toInt (by omega); have t_n1 : (nI P).toInt = (P : Int) := nI_toInt (by omega); have t_n2 : (nI T).toInt = (T : Int) := nI_toInt (by omega); omega)) (kwV hg mfX5_isName wt_395 ⟨Nat.le_of_ble_eq_true rfl, Nat.le_of_ble_eq_true rfl⟩) (preVRS hK hPc hSS hS (fun q h => hA q (Nat.le_trans hS.1 h)) (ci := 5) rfl rfl) rfl rfl hl.1 rfl (lv_room (Nat.le_of_ble_eq_true rfl)) dX5_kind_58 ⟨Nat.le_of_ble_eq_true rfl, Nat.le_of_ble_eq_true rfl⟩) hS (fun q h1 h2 => absurd h2 (Nat.not_le.mpr h1)) (fun q h => hA q (Nat.le_trans hS.1 h)) (fun r16 ur16 t H1 locs ht hvm w17 hB hz1 hk1 hS => ?_)
            have hP := keepR hP hk1
            obtain ⟨w17, w17x⟩ := w17
            subst w17
            refine lv_if_eq (tgt := 68) hx hb dX5_kind_61 (by decide) (fun c18 => ?_) (fun c18 => ?_)
            · skip
              refine lv_bipush (v := (-4)) hx hb dX5_kind_68 (by decide) ?_
              have hpost : ((-4) : Int32) = kdF f F P x3 := by
                have t_c3 := eqI c3
                have t_c6 := eqI c6
                have t_c9 := eqI c9
                have t_c12 := eqI c12
                have t_c15 := eqI c15
                have t_c18 := eqI c18
                have : (0 : Int32).toInt = 0 := (by decide)
                have t_n0 : (nI F).toInt = (F : Int) := nI_toInt (by omega)
                have t_n1 : (nI P).toInt = (P : Int) := nI_toInt (by omega)
                have t_n2 : (nI T).toInt = (T : Int) := nI_toInt (by omega)
                unfold kdF
                (try (repeat (first | rw [if_pos (by assumption)] | rw [if_neg (by assumption)] | rw [if_pos (by omega)] | rw [if_neg (by omega)] | rw [if_pos (by decide)] | rw [if_neg (by decide)])))
                all_goals rfl
              refine W.widen (k := 0) (n := 0) (by omega) (by omega) ?_
              exact W.iret (v := (-4)) hx hb hr (fun t ht hW => ⟨⟨(-4), (), rfl, ⟨hpost, trivial⟩, trivial⟩, hS.F ht⟩) hS.2.2 dX5_kind_70
            · skip
              refine lv_iconst (v := 5) hx hb dX5_kind_64 (by decide) ?_
              refine lv_goto (tgt := 70) hx hb dX5_kind_65 (by decide) ?_
              have hpost : (5 : Int32) = kdF f F P x3 := by
                have t_c3 := eqI c3
                have t_c6 := eqI c6
                have t_c9 := eqI c9
                have t_c12 := eqI c12
                have t_c15 := eqI c15
                have t_c18 := neI c18
                have : (0 : Int32).toInt = 0 := (by decide)
                have t_n0 : (nI F).toInt = (F : Int) := nI_toInt (by omega)
                have t_n1 : (nI P).toInt = (P : Int) := nI_toInt (by omega)
                have t_n2 : (nI T).toInt = (T : Int) := nI_toInt (by omega)
                unfold kdF
                (try (repeat (first | rw [if_pos (by assumption)] | rw [if_neg (by assumption)] | rw [if_pos (by omega)] | rw [if_neg (by omega)] | rw [if_pos (by decide)] | rw [if_neg (by decide)])))
                all_goals rfl
              refine W.widen (k := 0) (n := 0) (by omega) (by omega) ?_
              exact W.iret (v := 5) hx hb hr (fun t ht hW => ⟨⟨5, (), rfl, ⟨hpost, trivial⟩, trivial⟩, hS.F ht⟩) hS.2.2 dX5_kind_70
          · skip
            refine lv_iconst (v := 4) hx hb dX5_kind_53 (by decide) ?_
            have hpost : (4 : Int32) = kdF f F P x3 := by
              have t_c3 := eqI c3
              have t_c6 := eqI c6
              have t_c9 := eqI c9
              have t_c12 := eqI c12
              have t_c15 := neI c15
              have : (0 : Int32).toInt = 0 := (by decide)
              have t_n0 : (nI F).toInt = (F : Int) := nI_toInt (by omega)
              have t_n1 : (nI P).toInt = (P : Int) := nI_toInt (by omega)
              have t_n2 : (nI T).toInt = (T : Int) := nI_toInt (by omega)
              unfold kdF
              (try (repeat (first | rw [if_pos (by assumption)] | rw [if_neg (by assumption)] | rw [if_pos (by omega)] | rw [if_neg (by omega)] | rw [if_pos (by decide)] | rw [if_neg (by decide)])))
              all_goals rfl
            refine W.widen (k := 0) (n := 0) (by omega) (by omega) ?_
            exact W.iret (v := 4) hx hb hr (fun t ht hW => ⟨⟨4, (), rfl, ⟨hpost, trivial⟩, trivial⟩, hS.F ht⟩) hS.2.2 dX5_kind_54
        · skip
          refine lv_iconst (v := 3) hx hb dX5_kind_42 (by decide) ?_
          have hpost : (3 : Int32) = kdF f F P x3 := by
            have t_c3 := eqI c3
            have t_c6 := eqI c6
            have t_c9 := eqI c9
            have t_c12 := neI c12
            have : (0 : Int32).toInt = 0 := (by decide)
            have t_n0 : (nI F).toInt = (F : Int) := nI_toInt (by omega)
            have t_n1 : (nI P).toInt = (P : Int) := nI_toInt (by omega)
            have t_n2 : (nI T).toInt = (T : Int) := nI_toInt (by omega)
            unfold kdF
            (try (repeat (first | rw [if_pos (by assumption)] | rw [if_neg (by assumption)] | rw [if_pos (by omega)] | rw [if_neg (by omega)] | rw [if_pos (by decide)] | rw [if_neg (by decide)])))
            all_goals rfl
          refine W.widen (k := 0) (n := 0) (by omega) (by omega) ?_
          exact W.iret (v := 3) hx hb hr (fun t ht hW => ⟨⟨3, (), rfl, ⟨hpost, trivial⟩, trivial⟩, hS.F ht⟩) hS.2.2 dX5_kind_43
      · skip
        refine lv_iconst (v := 2) hx hb dX5_kind_31 (by decide) ?_
        have hpost : (2 : Int32) = kdF f F P x3 := by
          have t_c3 := eqI c3
          have t_c6 := eqI c6
          have t_c9 := neI c9
          have : (0 : Int32).toInt = 0 := (by decide)
          have t_n0 : (nI F).toInt = (F : Int) := nI_toInt (by omega)
          have t_n1 : (nI P).toInt = (P : Int) := nI_toInt (by omega)
          have t_n2 : (nI T).toInt = (T : Int) := nI_toInt (by omega)
          unfold kdF
          (try (repeat (first | rw [if_pos (by assumption)] | rw [if_neg (by assumption)] | rw [if_pos (by omega)] | rw [if_neg (by omega)] | rw [if_pos (by decide)] | rw [if_neg (by decide)])))
          all_goals rfl
        refine W.widen (k := 0) (n := 0) (by omega) (by omega) ?_
        exact W.iret (v := 2) hx hb hr (fun t ht hW => ⟨⟨2, (), rfl, ⟨hpost, trivial⟩, trivial⟩, hS.F ht⟩) hS.2.2 dX5_kind_32
    · skip
      refine lv_iconst (v := 1) hx hb dX5_kind_20 (by decide) ?_
      have hpost : (1 : Int32) = kdF f F P x3 := by
        have t_c3 := eqI c3
        have t_c6 := neI c6
        have : (0 : Int32).toInt = 0 := (by decide)
        have t_n0 : (nI F).toInt = (F : Int) := nI_toInt (by omega)
        have t_n1 : (nI P).toInt = (P : Int) := nI_toInt (by omega)
        have t_n2 : (nI T).toInt = (T : Int) := nI_toInt (by omega)
        unfold kdF
        (try (repeat (first | rw [if_pos (by assumption)] | rw [if_neg (by assumption)] | rw [if_pos (by omega)] | rw [if_neg (by omega)] | rw [if_pos (by decide)] | rw [if_neg (by decide)])))
        all_goals rfl
      refine W.widen (k := 0) (n := 0) (by omega) (by omega) ?_
      exact W.iret (v := 1) hx hb hr (fun t ht hW => ⟨⟨1, (), rfl, ⟨hpost, trivial⟩, trivial⟩, hS.F ht⟩) hS.2.2 dX5_kind_21
  · skip
    refine lv_iconst (v := 0) hx hb dX5_kind_9 (by decide) ?_
    have hpost : (0 : Int32) = kdF f F P x3 := by
      have t_c3 := neI c3
      have : (0 : Int32).toInt = 0 := (by decide)
      have t_n0 : (nI F).toInt = (F : Int) := nI_toInt (by omega)
      have t_n1 : (nI P).toInt = (P : Int) := nI_toInt (by omega)
      have t_n2 : (nI T).toInt = (T : Int) := nI_toInt (by omega)
      unfold kdF
      (try (repeat (first | rw [if_pos (by assumption)] | rw [if_neg (by assumption)] | rw [if_pos (by omega)] | rw [if_neg (by omega)] | rw [if_pos (by decide)] | rw [if_neg (by decide)])))
      all_goals rfl
    refine W.widen (k := 0) (n := 0) (by omega) (by omega) ?_
    exact W.iret (v := 0) hx hb hr (fun t ht hW => ⟨⟨0, (), rfl, ⟨hpost, trivial⟩, trivial⟩, hS.F ht⟩) hS.2.2 dX5_kind_10
