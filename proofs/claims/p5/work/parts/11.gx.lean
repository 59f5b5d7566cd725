def mx (x y : Int32) : Int32 := if x.toInt < y.toInt then y else x
def mn (x y : Int32) : Int32 := if y.toInt < x.toInt then y else x
def ab (x : Int32) : Int32 := if x.toInt < 0 then -x else x
def nzF (nz k : Int32) : Int32 := mx 0 (nz - (if k = 1 then 2 else if k = 3 then 1 else 0))
def cdF (cd wm k : Int32) : Int32 := mx 0 (cd - wm) + (if k = 2 ∧ ¬ cd < 5 then 1 else 0)
theorem i32_nat {x : Int32} {n : Nat} (h0 : 0 ≤ x.toInt) (h1 : x.toInt < (n : Int)) : ∃ j : Nat, j < n ∧ x = nI j := by
  have hr := x.toInt_lt
  refine ⟨x.toInt.toNat, by omega, ?_⟩
  apply Int32.toInt_inj.mp
  rw [nI_toInt (by have := x.toInt_lt; omega)]
  omega
def dn : Nat → Int32
  | 0 => -1
  | k + 1 => nI k
theorem dn_sub {n : Nat} : nI n - 1 = dn n := by
  cases n with
  | zero => decide
  | succ k => exact nI_pred k
theorem dn_pred (n : Nat) : nI n + Int32.ofInt (-1) = dn n := by
  cases n with
  | zero => decide
  | succ k => exact pk_m1 k
theorem mn_nI {a b : Nat} (ha : a < 2 ^ 31) (hb : b < 2 ^ 31) : mn (nI a) (nI b) = nI (min a b) := by
  unfold mn
  rw [nI_toInt ha, nI_toInt hb]
  split
  · rw [Nat.min_eq_right (by omega)]
  · rw [Nat.min_eq_left (by omega)]
def jlF (g : Int32) (k : Nat) (f4 f5 : Nat → Int32) : Int32 := if g = -4 then 0 else if g = nI k then 0 else if f4 g.toNatClampNeg = 4 ∧ f4 k = 4 then 0 else if f4 k = 5 then ab (f5 g.toNatClampNeg - f5 k) / 2 else ab (f5 g.toNatClampNeg - f5 k)
def hmF (N B : Nat) (f1 f2 f4 f5 f6 : Nat → Int32) (i g k : Int32) : Int32 := if (0 ≤ i.toInt ∧ i.toInt < (N : Int)) ∧ (g.toInt = -4 ∨ (0 ≤ g.toInt ∧ g.toInt < (B : Int))) ∧ (0 ≤ k.toInt ∧ k.toInt < (B : Int)) then mn 20 (nzF (f1 i.toNatClampNeg) (f4 k.toNatClampNeg) + cdF (f2 i.toNatClampNeg) (f6 k.toNatClampNeg) (f4 k.toNatClampNeg) + jlF g k.toNatClampNeg f4 f5) else 0
def hmO (N B : Nat) (f1 f2 f3 f4 f5 f6 : Nat → Int32) (i : Int32) : Int32 := if 0 ≤ i.toInt ∧ i.toInt < (N : Int) then hmF N B f1 f2 f4 f5 f6 i (if i = 0 then -4 else f3 (i.toNatClampNeg - 1)) (f3 i.toNatClampNeg) else 0
def slotF (g : Int32) (d : Nat) : Nat := (if g = -4 then 0 else g.toNatClampNeg + 1) * 10 + d
theorem slotF_lt {g : Int32} {d : Nat} (h : g.toInt = -4 ∨ (0 ≤ g.toInt ∧ g.toInt < 6)) (hd : d ≤ 9) : slotF g d < 70 := by
  unfold slotF
  have e : g.toNatClampNeg = g.toInt.toNat := rfl
  split <;> omega
theorem fz0 {a z r : Int32} {v : Int64} (h : r = if a = -1 then 1 else if v.toInt < 0 ∨ z.toInt ≤ v.toInt then 2 else 0) (h0 : r = 0) : 0 ≤ v.toInt ∧ v.toInt < z.toInt := by
  subst h
  split at h0
  · exact absurd h0 (by decide)
  · split at h0
    · exact absurd h0 (by decide)
    · omega
theorem l2i_in {x : Int64} (h0 : 0 ≤ x.toInt) (h1 : x.toInt < 1000) : x.toInt32.toInt = x.toInt := by
  have e : x.toInt32.toInt = x.toInt.bmod (2 ^ 32) := Int64.toInt_toInt32 x
  rw [e]
  exact Int.bmod_eq_of_le (by omega) (by omega)
set_option maxHeartbeats 1000000 in
set_option maxRecDepth 100000 in
theorem c_X9_hasStretch (l : Launch) (dC : Nat → ClassId) (dI : Nat → Nat → Nat) (G : Nat → ClassId) (sz : Nat) (h0 a1 a2 a3 a4 a5 a6 N B D : Nat) (i : Int32) (hN_N : N ≤ 10) (hB_B : B ≤ 6) (hD_D : 1 ≤ D ∧ D ≤ 9) : Met l yX9_hasStretch (Cond.code yX9_hasStretch cX9_hasStretch 2 (some .boolean) :: GT) ({ frames := 0, cells := 0, slots := 0, locals := 0 } : Room) (PcR [.ref h0, .int i] dC dI G [(h0, .inr (9, [.int (nI N), .int (nI B), .int (nI D), .ref a1, .ref a2, .ref a3, .ref a4, .ref a5, .ref a6]))] sz) (va_Qi (fun (r : Int32) (u : Unit) => match u with | _ => (r = if 0 ≤ i.toInt ∧ i.toInt < ((N : Nat) : Int) then 1 else 0) ∧ True) (fun _ _ => True) (fun q : Nat => sz ≤ q)) 0 0 (fun q : Nat => sz ≤ q) := by
  refine Met.ofW (cc := cX9_hasStretch) (maxL := 2) (ret := (some .boolean)) (by decide) rfl ?_
  intro p e s m args below meth c s₁ Bd hml hv
  obtain ⟨rfl, hsz, hP, hK⟩ := hv
  have hx := Bd.exec
  have hb := Bd.bytes
  have hr := Bd.returns
  have hg : ∀ w ∈ GT, w.before ([.ref h0, .int i] : List Value).toArray s = true := fun w h => atoms_spec (ws := Cond.code yX9_hasStretch cX9_hasStretch 2 (some .boolean) :: GT) Bd.pre w (List.mem_cons_of_mem _ h)
  have hown : s.vm.findClass RX9 = some m.cls := findClass_of_methodNamed Bd.named
  have hlocks := Bd.notSynchronized
  subst hsz
  have hA : ∀ q : Nat, s.heap.size ≤ q → (fun q : Nat => s.heap.size ≤ q) q := fun _ h => h
  have hS : va_S (fun q : Nat => s.heap.size ≤ q) s.heap s.heap [] := va_S.rf
  have hl := lv_entry ([.ref h0, .int i]) (n := 2) (Nat.le_of_ble_eq_true rfl)
  rw [lg_entry_eq]
  generalize (lg_sl ([.ref h0, .int i]) ++ List.replicate (2 - (lg_sl ([.ref h0, .int i])).length) Slot.unset).toArray = ls at hl ⊢
  have hl : lv_has ls 2 [(0, .ref h0), (1, .int i)] := hl
  refine lv_iload_n hx hb dX9_hasStretch_0 rfl (lv_at hl 1 rfl) ?_
  refine lv_if_lt (tgt := 16) hx hb dX9_hasStretch_1 (by decide) (fun c1 => ?_) (fun c1 => ?_)
  · skip
    refine lv_iconst (v := 0) hx hb dX9_hasStretch_16 (by decide) ?_
    have hpost : (0 : Int32) = if 0 ≤ i.toInt ∧ i.toInt < ((N : Nat) : Int) then 1 else 0 := by
      have t_c1 := ltI c1
      have : (0 : Int32).toInt = 0 := (by decide)
      have t_n0 : (nI N).toInt = (N : Int) := nI_toInt (by omega)
      have t_n1 : (nI B).toInt = (B : Int) := nI_toInt (by omega)
      have t_n2 : (nI D).toInt = (D : Int) := nI_toInt (by omega)
      have t_n0 : (nI N).toInt = (N : Int) := nI_toInt (by omega)
      have t_n1 : (nI B).toInt = (B : Int) := nI_toInt (by omega)
      have t_n2 : (nI D).toInt = (D : Int) := nI_toInt (by omega)
      first | rfl | ((repeat' split) <;> first | rfl | omega)
    refine W.widen (k := 0) (n := 0) (by omega) (by omega) ?_
    exact W.zret (v := 0) hx hb hr (by first | rfl | decide | exact rfl) (fun t ht hW => ⟨⟨0, (), rfl, ⟨hpost, trivial⟩, trivial⟩, hS.F ht⟩) hS.2.2 dX9_hasStretch_17
  · skip
    refine lv_iload_n hx hb dX9_hasStretch_4 rfl (lv_at hl 1 rfl) ?_
    refine lv_aload_n hx hb dX9_hasStretch_5 rfl (lv_at hl 0 rfl) ?_
    refine va_get (D := (dC, dI)) (ci := 9) (v := .int (nI N)) (C := RX9) (T := TX9) (N := 9) hx hb hg inG9 hown hK.1 hP 0 rfl rfl 0 (by decide) (hg _ wt_56) (fun _ h9 => h9) rfl dX9_hasStretch_6 ?_
    refine lv_icmp_ge (tgt := 16) hx hb dX9_hasStretch_9 (by decide) (fun c2 => ?_) (fun c2 => ?_)
    · skip
      refine lv_iconst (v := 0) hx hb dX9_hasStretch_16 (by decide) ?_
      have hpost : (0 : Int32) = if 0 ≤ i.toInt ∧ i.toInt < ((N : Nat) : Int) then 1 else 0 := by
        have t_c1 := nltI c1
        have t_c2 := leI c2
        have : (0 : Int32).toInt = 0 := (by decide)
        have t_n0 : (nI N).toInt = (N : Int) := nI_toInt (by omega)
        have t_n1 : (nI B).toInt = (B : Int) := nI_toInt (by omega)
        have t_n2 : (nI D).toInt = (D : Int) := nI_toInt (by omega)
        have t_n0 : (nI N).toInt = (N : Int) := nI_toInt (by omega)
        have t_n1 : (nI B).toInt = (B : Int) := nI_toInt (by omega)
        have t_n2 : (nI D).toInt = (D : Int) := nI_toInt (by omega)
        first | rfl | ((repeat' split) <;> first | rfl | omega)
      refine W.widen (k := 0) (n := 0) (by omega) (by omega) ?_
      exact W.zret (v := 0) hx hb hr (by first | rfl | decide | exact rfl) (fun t ht hW => ⟨⟨0, (), rfl, ⟨hpost, trivial⟩, trivial⟩, hS.F ht⟩) hS.2.2 dX9_hasStretch_17
    · skip
      refine lv_iconst (v := 1) hx hb dX9_hasStretch_12 (by decide) ?_
      refine lv_goto (tgt := 17) hx hb dX9_hasStretch_13 (by decide) ?_
      have hpost : (1 : Int32) = if 0 ≤ i.toInt ∧ i.toInt < ((N : Nat) : Int) then 1 else 0 := by
        have t_c1 := nltI c1
        have t_c2 := nleI c2
        have : (0 : Int32).toInt = 0 := (by decide)
        have t_n0 : (nI N).toInt = (N : Int) := nI_toInt (by omega)
        have t_n1 : (nI B).toInt = (B : Int) := nI_toInt (by omega)
        have t_n2 : (nI D).toInt = (D : Int) := nI_toInt (by omega)
        have t_n0 : (nI N).toInt = (N : Int) := nI_toInt (by omega)
        have t_n1 : (nI B).toInt = (B : Int) := nI_toInt (by omega)
        have t_n2 : (nI D).toInt = (D : Int) := nI_toInt (by omega)
        first | rfl | ((repeat' split) <;> first | rfl | omega)
      refine W.widen (k := 0) (n := 0) (by omega) (by omega) ?_
      exact W.zret (v := 1) hx hb hr (by first | rfl | decide | exact rfl) (fun t ht hW => ⟨⟨1, (), rfl, ⟨hpost, trivial⟩, trivial⟩, hS.F ht⟩) hS.2.2 dX9_hasStretch_17

set_option maxHeartbeats 1000000 in
set_option maxRecDepth 100000 in
theorem c_X9_hasBearer (l : Launch) (dC : Nat → ClassId) (dI : Nat → Nat → Nat) (G : Nat → ClassId) (sz : Nat) (h0 a1 a2 a3 a4 a5 a6 N B D : Nat) (i : Int32) (hN_N : N ≤ 10) (hB_B : B ≤ 6) (hD_D : 1 ≤ D ∧ D ≤ 9) : Met l yX9_hasBearer (Cond.code yX9_hasBearer cX9_hasBearer 2 (some .boolean) :: GT) ({ frames := 0, cells := 0, slots := 0, locals := 0 } : Room) (PcR [.ref h0, .int i] dC dI G [(h0, .inr (9, [.int (nI N), .int (nI B), .int (nI D), .ref a1, .ref a2, .ref a3, .ref a4, .ref a5, .ref a6]))] sz) (va_Qi (fun (r : Int32) (u : Unit) => match u with | _ => (r = if 0 ≤ i.toInt ∧ i.toInt < ((B : Nat) : Int) then 1 else 0) ∧ True) (fun _ _ => True) (fun q : Nat => sz ≤ q)) 0 0 (fun q : Nat => sz ≤ q) := by
  refine Met.ofW (cc := cX9_hasBearer) (maxL := 2) (ret := (some .boolean)) (by decide) rfl ?_
  intro p e s m args below meth c s₁ Bd hml hv
  obtain ⟨rfl, hsz, hP, hK⟩ := hv
  have hx := Bd.exec
  have hb := Bd.bytes
  have hr := Bd.returns
  have hg : ∀ w ∈ GT, w.before ([.ref h0, .int i] : List Value).toArray s = true := fun w h => atoms_spec (ws := Cond.code yX9_hasBearer cX9_hasBearer 2 (some .boolean) :: GT) Bd.pre w (List.mem_cons_of_mem _ h)
  have hown : s.vm.findClass RX9 = some m.cls := findClass_of_methodNamed Bd.named
  have hlocks := Bd.notSynchronized
  subst hsz
  have hA : ∀ q : Nat, s.heap.size ≤ q → (fun q : Nat => s.heap.size ≤ q) q := fun _ h => h
  have hS : va_S (fun q : Nat => s.heap.size ≤ q) s.heap s.heap [] := va_S.rf
  have hl := lv_entry ([.ref h0, .int i]) (n := 2) (Nat.le_of_ble_eq_true rfl)
  rw [lg_entry_eq]
  generalize (lg_sl ([.ref h0, .int i]) ++ List.replicate (2 - (lg_sl ([.ref h0, .int i])).length) Slot.unset).toArray = ls at hl ⊢
  have hl : lv_has ls 2 [(0, .ref h0), (1, .int i)] := hl
  refine lv_iload_n hx hb dX9_hasBearer_0 rfl (lv_at hl 1 rfl) ?_
  refine lv_if_lt (tgt := 16) hx hb dX9_hasBearer_1 (by decide) (fun c1 => ?_) (fun c1 => ?_)
  · skip
    refine lv_iconst (v := 0) hx hb dX9_hasBearer_16 (by decide) ?_
    have hpost : (0 : Int32) = if 0 ≤ i.toInt ∧ i.toInt < ((B : Nat) : Int) then 1 else 0 := by
      have t_c1 := ltI c1
      have : (0 : Int32).toInt = 0 := (by decide)
      have t_n0 : (nI N).toInt = (N : Int) := nI_toInt (by omega)
      have t_n1 : (nI B).toInt = (B : Int) := nI_toInt (by omega)
      have t_n2 : (nI D).toInt = (D : Int) := nI_toInt (by omega)
      have t_n0 : (nI N).toInt = (N : Int) := nI_toInt (by omega)
      have t_n1 : (nI B).toInt = (B : Int) := nI_toInt (by omega)
      have t_n2 : (nI D).toInt = (D : Int) := nI_toInt (by omega)
      first | rfl | ((repeat' split) <;> first | rfl | omega)
    refine W.widen (k := 0) (n := 0) (by omega) (by omega) ?_
    exact W.zret (v := 0) hx hb hr (by first | rfl | decide | exact rfl) (fun t ht hW => ⟨⟨0, (), rfl, ⟨hpost, trivial⟩, trivial⟩, hS.F ht⟩) hS.2.2 dX9_hasBearer_17
  · skip
    refine lv_iload_n hx hb dX9_hasBearer_4 rfl (lv_at hl 1 rfl) ?_
    refine lv_aload_n hx hb dX9_hasBearer_5 rfl (lv_at hl 0 rfl) ?_
    refine va_get (D := (dC, dI)) (ci := 9) (v := .int (nI B)) (C := RX9) (T := TX9) (N := 9) hx hb hg inG9 hown hK.1 hP 0 rfl rfl 1 (by decide) (hg _ wt_62) (fun _ h9 => h9) rfl dX9_hasBearer_6 ?_
    refine lv_icmp_ge (tgt := 16) hx hb dX9_hasBearer_9 (by decide) (fun c2 => ?_) (fun c2 => ?_)
    · skip
      refine lv_iconst (v := 0) hx hb dX9_hasBearer_16 (by decide) ?_
      have hpost : (0 : Int32) = if 0 ≤ i.toInt ∧ i.toInt < ((B : Nat) : Int) then 1 else 0 := by
        have t_c1 := nltI c1
        have t_c2 := leI c2
        have : (0 : Int32).toInt = 0 := (by decide)
        have t_n0 : (nI N).toInt = (N : Int) := nI_toInt (by omega)
        have t_n1 : (nI B).toInt = (B : Int) := nI_toInt (by omega)
        have t_n2 : (nI D).toInt = (D : Int) := nI_toInt (by omega)
        have t_n0 : (nI N).toInt = (N : Int) := nI_toInt (by omega)
        have t_n1 : (nI B).toInt = (B : Int) := nI_toInt (by omega)
        have t_n2 : (nI D).toInt = (D : Int) := nI_toInt (by omega)
        first | rfl | ((repeat' split) <;> first | rfl | omega)
      refine W.widen (k := 0) (n := 0) (by omega) (by omega) ?_
      exact W.zret (v := 0) hx hb hr (by first | rfl | decide | exact rfl) (fun t ht hW => ⟨⟨0, (), rfl, ⟨hpost, trivial⟩, trivial⟩, hS.F ht⟩) hS.2.2 dX9_hasBearer_17
    · skip
      refine lv_iconst (v := 1) hx hb dX9_hasBearer_12 (by decide) ?_
      refine lv_goto (tgt := 17) hx hb dX9_hasBearer_13 (by decide) ?_
      have hpost : (1 : Int32) = if 0 ≤ i.toInt ∧ i.toInt < ((B : Nat) : Int) then 1 else 0 := by
        have t_c1 := nltI c1
        have t_c2 := nleI c2
        have : (0 : Int32).toInt = 0 := (by decide)
        have t_n0 : (nI N).toInt = (N : Int) := nI_toInt (by omega)
        have t_n1 : (nI B).toInt = (B : Int) := nI_toInt (by omega)
        have t_n2 : (nI D).toInt = (D : Int) := nI_toInt (by omega)
        have t_n0 : (nI N).toInt = (N : Int) := nI_toInt (by omega)
        have t_n1 : (nI B).toInt = (B : Int) := nI_toInt (by omega)
        have t_n2 : (nI D).toInt = (D : Int) := nI_toInt (by omega)
        first | rfl | ((repeat' split) <;> first | rfl | omega)
      refine W.widen (k := 0) (n := 0) (by omega) (by omega) ?_
      exact W.zret (v := 1) hx hb hr (by first | rfl | decide | exact rfl) (fun t ht hW => ⟨⟨1, (), rfl, ⟨hpost, trivial⟩, trivial⟩, hS.F ht⟩) hS.2.2 dX9_hasBearer_17

set_option maxHeartbeats 1000000 in
set_option maxRecDepth 100000 in
theorem c_X9_canHand (l : Launch) (dC : Nat → ClassId) (dI : Nat → Nat → Nat) (G : Nat → ClassId) (sz : Nat) (h0 a1 a2 a3 a4 a5 a6 N B D : Nat) (i g k : Int32) (hN_N : N ≤ 10) (hB_B : B ≤ 6) (hD_D : 1 ≤ D ∧ D ≤ 9) : Met l yX9_canHand (Cond.code yX9_canHand cX9_canHand 4 (some .boolean) :: GT) ({ frames := 1, cells := 0, slots := 0, locals := 21 } : Room) (PcR [.ref h0, .int i, .int g, .int k] dC dI G [(h0, .inr (9, [.int (nI N), .int (nI B), .int (nI D), .ref a1, .ref a2, .ref a3, .ref a4, .ref a5, .ref a6]))] sz) (va_Qi (fun (r : Int32) (u : Unit) => match u with | _ => (r = if (0 ≤ i.toInt ∧ i.toInt < ((N : Nat) : Int)) ∧ (g.toInt = -4 ∨ (0 ≤ g.toInt ∧ g.toInt < ((B : Nat) : Int))) ∧ (0 ≤ k.toInt ∧ k.toInt < ((B : Nat) : Int)) then 1 else 0) ∧ True) (fun _ _ => True) (fun q : Nat => sz ≤ q)) 0 0 (fun q : Nat => sz ≤ q) := by
  refine Met.ofW (cc := cX9_canHand) (maxL := 4) (ret := (some .boolean)) (by decide) rfl ?_
  intro p e s m args below meth c s₁ Bd hml hv
  obtain ⟨rfl, hsz, hP, hK⟩ := hv
  have hx := Bd.exec
  have hb := Bd.bytes
  have hr := Bd.returns
  have hg : ∀ w ∈ GT, w.before ([.ref h0, .int i, .int g, .int k] : List Value).toArray s = true := fun w h => atoms_spec (ws := Cond.code yX9_canHand cX9_canHand 4 (some .boolean) :: GT) Bd.pre w (List.mem_cons_of_mem _ h)
  have hown : s.vm.findClass RX9 = some m.cls := findClass_of_methodNamed Bd.named
  have hlocks := Bd.notSynchronized
  subst hsz
  have hA : ∀ q : Nat, s.heap.size ≤ q → (fun q : Nat => s.heap.size ≤ q) q := fun _ h => h
  have hS : va_S (fun q : Nat => s.heap.size ≤ q) s.heap s.heap [] := va_S.rf
  have hl := lv_entry ([.ref h0, .int i, .int g, .int k]) (n := 4) (Nat.le_of_ble_eq_true rfl)
  rw [lg_entry_eq]
  generalize (lg_sl ([.ref h0, .int i, .int g, .int k]) ++ List.replicate (4 - (lg_sl ([.ref h0, .int i, .int g, .int k])).length) Slot.unset).toArray = ls at hl ⊢
  have hl : lv_has ls 4 [(0, .ref h0), (1, .int i), (2, .int g), (3, .int k)] := hl
  refine lv_aload_n hx hb dX9_canHand_0 rfl (lv_at hl 0 rfl) ?_
  refine lv_iload_n hx hb dX9_canHand_1 rfl (lv_at hl 1 rfl) ?_
  have hPc := hP.sub (ws' := [(h0, .inr (9, [.int (nI N), .int (nI B), .int (nI D), .ref a1, .ref a2, .ref a3, .ref a4, .ref a5, .ref a6]))]) [0] rfl
  refine va_calli (va_runV (As := [.int i]) (rest := []) ⟨hx, hb, hml, hown, hg⟩ (c_X9_hasStretch l dC dI G _ h0 a1 a2 a3 a4 a5 a6 N B D i (by have t_n0 : (nI N).toInt = (N : Int) := nI_toInt (by omega); have t_n1 : (nI B).toInt = (B : Int) := nI_toInt (by omega); have t_n2 : (nI D).toInt = (D : Int) := nI_toInt (by omega); omega) (by have t_n0 : (nI N).toInt = (N : Int) := nI_toInt (by omega); have t_n1 : (nI B).toInt = (B : Int) := nI_toInt (by omega); have t_n2 : (nI D).toInt = (D : Int) := nI_toInt (by omega); omega) (by have t_n0 : (nI N).toInt = (N : Int) := nI_toInt (by omega); have t_n1 : (nI B).toInt = (B : Int) := nI_toInt (by omega); have t_n2 : (nI D).toInt = (D : Int) := nI_toInt (by omega); omega)) (kwV hg mfX9_hasStretch wt_574 ⟨Nat.le_of_ble_eq_true rfl, Nat.le_of_ble_eq_true rfl⟩) (preVR hK hPc (ci := 9) rfl rfl) rfl rfl hl.1 rfl (lv_room (Nat.le_of_ble_eq_true rfl)) dX9_canHand_2 ⟨Nat.le_of_ble_eq_true rfl, Nat.le_of_ble_eq_true rfl⟩) hS (fun q h1 h2 => absurd h2 (Nat.not_le.mpr h1)) (fun q h => hA q (Nat.le_trans hS.1 h)) (fun r1 ur1 t H1 locs ht hvm w2 hB hz1 hk1 hS => ?_)
  have hP := keepR hP hk1
  obtain ⟨w2, w2x⟩ := w2
  try simp only [l_ii, show (0 : Int32).toInt = 0 from by decide] at w2
  try rw [nI_toInt (n := N) (by omega)] at w2
  subst w2
  refine lv_if_eq (tgt := 34) hx hb dX9_canHand_5 (by decide) (fun c3 => ?_) (fun c3 => ?_)
  · skip
    have b4 := if10_n c3
    refine lv_iconst (v := 0) hx hb dX9_canHand_34 (by decide) ?_
    have hpost : (0 : Int32) = if (0 ≤ i.toInt ∧ i.toInt < ((N : Nat) : Int)) ∧ (g.toInt = -4 ∨ (0 ≤ g.toInt ∧ g.toInt < ((B : Nat) : Int))) ∧ (0 ≤ k.toInt ∧ k.toInt < ((B : Nat) : Int)) then 1 else 0 := by
      have t_b4 := b4
      have t_n0 : (nI N).toInt = (N : Int) := nI_toInt (by omega)
      have t_n1 : (nI B).toInt = (B : Int) := nI_toInt (by omega)
      have t_n2 : (nI D).toInt = (D : Int) := nI_toInt (by omega)
      have t_n0 : (nI N).toInt = (N : Int) := nI_toInt (by omega)
      have t_n1 : (nI B).toInt = (B : Int) := nI_toInt (by omega)
      have t_n2 : (nI D).toInt = (D : Int) := nI_toInt (by omega)
      first | rfl | ((repeat' split) <;> first | rfl | omega)
    refine W.widen (k := 0) (n := 0) (by omega) (by omega) ?_
    exact W.zret (v := 0) hx hb hr (by first | rfl | decide | exact rfl) (fun t ht hW => ⟨⟨0, (), rfl, ⟨hpost, trivial⟩, trivial⟩, hS.F ht⟩) hS.2.2 dX9_canHand_35
  · skip
    have b5 := if10_p c3
    refine lv_iload_n hx hb dX9_canHand_8 rfl (lv_at hl 2 rfl) ?_
    refine lv_bipush (v := (-4)) hx hb dX9_canHand_9 (by decide) ?_
    refine lv_icmp_eq (tgt := 22) hx hb dX9_canHand_11 (by decide) (fun c6 => ?_) (fun c6 => ?_)
    · skip
      refine lv_aload_n hx hb dX9_canHand_22 rfl (lv_at hl 0 rfl) ?_
      refine lv_iload_n hx hb dX9_canHand_23 rfl (lv_at hl 3 rfl) ?_
      have hPc := hP.sub (ws' := [(h0, .inr (9, [.int (nI N), .int (nI B), .int (nI D), .ref a1, .ref a2, .ref a3, .ref a4, .ref a5, .ref a6]))]) [0] rfl
      refine va_calli (va_runV (As := [.int k]) (rest := []) ⟨hx, hb, hml, hown, hg⟩ (c_X9_hasBearer l dC dI G _ h0 a1 a2 a3 a4 a5 a6 N B D k (by have t_b5 := b5; have t_c6 := eqI c6; have : ((-4) : Int32).toInt = -4 := (by decide); have t_n0 : (nI N).toInt = (N : Int) := nI_toInt (by omega); have t_n1 : (nI B).toInt = (B : Int) := nI_toInt (by omega); have t_n2 : (nI D).toInt = (D : Int) := nI_toInt (by omega); omega) (by have t_b5 := b5; have t_c6 := eqI c6; have : ((-4) : Int32).toInt = -4 := (by decide); have t_n0 : (nI N).toInt = (N : Int) := nI_toInt (by omega); have t_n1 : (nI B).toInt = (B : Int) := nI_toInt (by omega); have t_n2 : (nI D).toInt = (D : Int) := nI_toInt (by omega); omega) (by have t_b5 := b5; have t_c6 := eqI c6; have : ((-4) : Int32).toInt = -4 := (by decide); have t_n0 : (nI N).toInt = (N : Int) := nI_toInt (by omega); have t_n1 : (nI B).toInt = (B : Int) := nI_toInt (by omega); have t_n2 : (nI D).toInt = (D : Int) := nI_toInt (by omega); omega)) (kwV hg mfX9_hasBearer wt_575 ⟨Nat.le_of_ble_eq_true rfl, Nat.le_of_ble_eq_true rfl⟩) (preVR hK hPc (ci := 9) rfl rfl) rfl rfl hl.1 rfl (lv_room (Nat.le_of_ble_eq_true rfl)) dX9_canHand_24 ⟨Nat.le_of_ble_eq_true rfl, Nat.le_of_ble_eq_true rfl⟩) hS (fun q h1 h2 => absurd h2 (Nat.not_le.mpr h1)) (fun q h => hA q (Nat.le_trans hS.1 h)) (fun r7 ur7 t H1 locs ht hvm w8 hB hz1 hk1 hS => ?_)
      have hP := keepR hP hk1
      obtain ⟨w8, w8x⟩ := w8
      try simp only [l_ii, show (0 : Int32).toInt = 0 from by decide] at w8
      try rw [nI_toInt (n := B) (by omega)] at w8
      subst w8
      refine lv_if_eq (tgt := 34) hx hb dX9_canHand_27 (by decide) (fun c9 => ?_) (fun c9 => ?_)
      · skip
        have b10 := if10_n c9
        refine lv_iconst (v := 0) hx hb dX9_canHand_34 (by decide) ?_
        have hpost : (0 : Int32) = if (0 ≤ i.toInt ∧ i.toInt < ((N : Nat) : Int)) ∧ (g.toInt = -4 ∨ (0 ≤ g.toInt ∧ g.toInt < ((B : Nat) : Int))) ∧ (0 ≤ k.toInt ∧ k.toInt < ((B : Nat) : Int)) then 1 else 0 := by
          have t_b5 := b5
          have t_c6 := eqI c6
          have t_b10 := b10
          have : ((-4) : Int32).toInt = -4 := (by decide)
          have t_n0 : (nI N).toInt = (N : Int) := nI_toInt (by omega)
          have t_n1 : (nI B).toInt = (B : Int) := nI_toInt (by omega)
          have t_n2 : (nI D).toInt = (D : Int) := nI_toInt (by omega)
          have t_n0 : (nI N).toInt = (N : Int) := nI_toInt (by omega)
          have t_n1 : (nI B).toInt = (B : Int) := nI_toInt (by omega)
          have t_n2 : (nI D).toInt = (D : Int) := nI_toInt (by omega)
          first | rfl | ((repeat' split) <;> first | rfl | omega)
        refine W.widen (k := 0) (n := 0) (by omega) (by omega) ?_
        exact W.zret (v := 0) hx hb hr (by first | rfl | decide | exact rfl) (fun t ht hW => ⟨⟨0, (), rfl, ⟨hpost, trivial⟩, trivial⟩, hS.F ht⟩) hS.2.2 dX9_canHand_35
      · skip
        have b11 := if10_p c9
        refine lv_iconst (v := 1) hx hb dX9_canHand_30 (by decide) ?_
        refine lv_goto (tgt := 35) hx hb dX9_canHand_31 (by decide) ?_
        have hpost : (1 : Int32) = if (0 ≤ i.toInt ∧ i.toInt < ((N : Nat) : Int)) ∧ (g.toInt = -4 ∨ (0 ≤ g.toInt ∧ g.toInt < ((B : Nat) : Int))) ∧ (0 ≤ k.toInt ∧ k.toInt < ((B : Nat) : Int)) then 1 else 0 := by
          have t_b5 := b5
          have t_c6 := eqI c6
          have t_b11 := b11
          have : ((-4) : Int32).toInt = -4 := (by decide)
          have t_n0 : (nI N).toInt = (N : Int) := nI_toInt (by omega)
          have t_n1 : (nI B).toInt = (B : Int) := nI_toInt (by omega)
          have t_n2 : (nI D).toInt = (D : Int) := nI_toInt (by omega)
          have t_n0 : (nI N).toInt = (N : Int) := nI_toInt (by omega)
          have t_n1 : (nI B).toInt = (B : Int) := nI_toInt (by omega)
          have t_n2 : (nI D).toInt = (D : Int) := nI_toInt (by omega)
          first | rfl | ((repeat' split) <;> first | rfl | omega)
        refine W.widen (k := 0) (n := 0) (by omega) (by omega) ?_
        exact W.zret (v := 1) hx hb hr (by first | rfl | decide | exact rfl) (fun t ht hW => ⟨⟨1, (), rfl, ⟨hpost, trivial⟩, trivial⟩, hS.F ht⟩) hS.2.2 dX9_canHand_35
    · skip
      refine lv_aload_n hx hb dX9_canHand_14 rfl (lv_at hl 0 rfl) ?_
      refine lv_iload_n hx hb dX9_canHand_15 rfl (lv_at hl 2 rfl) ?_
      have hPc := hP.sub (ws' := [(h0, .inr (9, [.int (nI N), .int (nI B), .int (nI D), .ref a1, .ref a2, .ref a3, .ref a4, .ref a5, .ref a6]))]) [0] rfl
      refine va_calli (va_runV (As := [.int g]) (rest := []) ⟨hx, hb, hml, hown, hg⟩ (c_X9_hasBearer l dC dI G _ h0 a1 a2 a3 a4 a5 a6 N B D g (by have t_b5 := b5; have t_c6 := neI c6; have : ((-4) : Int32).toInt = -4 := (by decide); have t_n0 : (nI N).toInt = (N : Int) := nI_toInt (by omega); have t_n1 : (nI B).toInt = (B : Int) := nI_toInt (by omega); have t_n2 : (nI D).toInt = (D : Int) := nI_toInt (by omega); omega) (by have t_b5 := b5; have t_c6 := neI c6; have : ((-4) : Int32).toInt = -4 := (by decide); have t_n0 : (nI N).toInt = (N : Int) := nI_toInt (by omega); have t_n1 : (nI B).toInt = (B : Int) := nI_toInt (by omega); have t_n2 : (nI D).toInt = (D : Int) := nI_toInt (by omega); omega) (by have t_b5 := b5; have t_c6 := neI c6; have : ((-4) : Int32).toInt = -4 := (by decide); have t_n0 : (nI N).toInt = (N : Int) := nI_toInt (by omega); have t_n1 : (nI B).toInt = (B : Int) := nI_toInt (by omega); have t_n2 : (nI D).toInt = (D : Int) := nI_toInt (by omega); omega)) (kwV hg mfX9_hasBearer wt_575 ⟨Nat.le_of_ble_eq_true rfl, Nat.le_of_ble_eq_true rfl⟩) (preVR hK hPc (ci := 9) rfl rfl) rfl rfl hl.1 rfl (lv_room (Nat.le_of_ble_eq_true rfl)) dX9_canHand_16 ⟨Nat.le_of_ble_eq_true rfl, Nat.le_of_ble_eq_true rfl⟩) hS (fun q h1 h2 => absurd h2 (Nat.not_le.mpr h1)) (fun q h => hA q (Nat.le_trans hS.1 h)) (fun r12 ur12 t H1 locs ht hvm w13 hB hz1 hk1 hS => ?_)
      have hP := keepR hP hk1
      obtain ⟨w13, w13x⟩ := w13
      try simp only [l_ii, show (0 : Int32).toInt = 0 from by decide] at w13
      try rw [nI_toInt (n := B) (by omega)] at w13
      subst w13
      refine lv_if_eq (tgt := 34) hx hb dX9_canHand_19 (by decide) (fun c14 => ?_) (fun c14 => ?_)
      · skip
        have b15 := if10_n c14
        refine lv_iconst (v := 0) hx hb dX9_canHand_34 (by decide) ?_
        have hpost : (0 : Int32) = if (0 ≤ i.toInt ∧ i.toInt < ((N : Nat) : Int)) ∧ (g.toInt = -4 ∨ (0 ≤ g.toInt ∧ g.toInt < ((B : Nat) : Int))) ∧ (0 ≤ k.toInt ∧ k.toInt < ((B : Nat) : Int)) then 1 else 0 := by
          have t_b5 := b5
          have t_c6 := neI c6
          have t_b15 := b15
          have : ((-4) : Int32).toInt = -4 := (by decide)
          have t_n0 : (nI N).toInt = (N : Int) := nI_toInt (by omega)
          have t_n1 : (nI B).toInt = (B : Int) := nI_toInt (by omega)
          have t_n2 : (nI D).toInt = (D : Int) := nI_toInt (by omega)
          have t_n0 : (nI N).toInt = (N : Int) := nI_toInt (by omega)
          have t_n1 : (nI B).toInt = (B : Int) := nI_toInt (by omega)
          have t_n2 : (nI D).toInt = (D : Int) := nI_toInt (by omega)
          first | rfl | ((repeat' split) <;> first | rfl | omega)
        refine W.widen (k := 0) (n := 0) (by omega) (by omega) ?_
        exact W.zret (v := 0) hx hb hr (by first | rfl | decide | exact rfl) (fun t ht hW => ⟨⟨0, (), rfl, ⟨hpost, trivial⟩, trivial⟩, hS.F ht⟩) hS.2.2 dX9_canHand_35
      · skip
        have b16 := if10_p c14
        refine lv_aload_n hx hb dX9_canHand_22 rfl (lv_at hl 0 rfl) ?_
        refine lv_iload_n hx hb dX9_canHand_23 rfl (lv_at hl 3 rfl) ?_
        have hPc := hP.sub (ws' := [(h0, .inr (9, [.int (nI N), .int (nI B), .int (nI D), .ref a1, .ref a2, .ref a3, .ref a4, .ref a5, .ref a6]))]) [0] rfl
        refine va_calli (va_runV (As := [.int k]) (rest := []) ⟨hx, hb, hml, hown, hg⟩ (c_X9_hasBearer l dC dI G _ h0 a1 a2 a3 a4 a5 a6 N B D k (by have t_b5 := b5; have t_c6 := neI c6; have t_b16 := b16; have : ((-4) : Int32).toInt = -4 := (by decide); have t_n0 : (nI N).toInt = (N : Int) := nI_toInt (by omega); have t_n1 : (nI B).toInt = (B : Int) := nI_toInt (by omega); have t_n2 : (nI D).toInt = (D : Int) := nI_toInt (by omega); omega) (by have t_b5 := b5; have t_c6 := neI c6; have t_b16 := b16; have : ((-4) : Int32).toInt = -4 := (by decide); have t_n0 : (nI N).toInt = (N : Int) := nI_toInt (by omega); have t_n1 : (nI B).toInt = (B : Int) := nI_toInt (by omega); have t_n2 : (nI D).toInt = (D : Int) := nI_toInt (by omega); omega) (by have t_b5 := b5; have t_c6 := neI c6; have t_b16 := b16; have : ((-4) : Int32).toInt = -4 := (by decide); have t_n0 : (nI N).toInt = (N : Int) := nI_toInt (by omega); have t_n1 : (nI B).toInt = (B : Int) := nI_toInt (by omega); have t_n2 : (nI D).toInt = (D : Int) := nI_toInt (by omega); omega)) (kwV hg mfX9_hasBearer wt_575 ⟨Nat.le_of_ble_eq_true rfl, Nat.le_of_ble_eq_true rfl⟩) (preVR hK hPc (ci := 9) rfl rfl) rfl rfl hl.1 rfl (lv_room (Nat.le_of_ble_eq_true rfl)) dX9_canHand_24 ⟨Nat.le_of_ble_eq_true rfl, Nat.le_of_ble_eq_true rfl⟩) hS (fun q h1 h2 => absurd h2 (Nat.not_le.mpr h1)) (fun q h => hA q (Nat.le_trans hS.1 h)) (fun r17 ur17 t H1 locs ht hvm w18 hB hz1 hk1 hS => ?_)
        have hP := keepR hP hk1
        obtain ⟨w18, w18x⟩ := w18
        try simp only [l_ii, show (0 : Int32).toInt = 0 from by decide] at w18
        try rw [nI_toInt (n := B) (by omega)] at w18
        subst w18
        refine lv_if_eq (tgt := 34) hx hb dX9_canHand_27 (by decide) (fun c19 => ?_) (fun c19 => ?_)
        · skip
          have b20 := if10_n c19
          refine lv_iconst (v := 0) hx hb dX9_canHand_34 (by decide) ?_
          have hpost : (0 : Int32) = if (0 ≤ i.toInt ∧ i.toInt < ((N : Nat) : Int)) ∧ (g.toInt = -4 ∨ (0 ≤ g.toInt ∧ g.toInt < ((B : Nat) : Int))) ∧ (0 ≤ k.toInt ∧ k.toInt < ((B : Nat) : Int)) then 1 else 0 := by
            have t_b5 := b5
            have t_c6 := neI c6
            have t_b16 := b16
            have t_b20 := b20
            have : ((-4) : Int32).toInt = -4 := (by decide)
            have t_n0 : (nI N).toInt = (N : Int) := nI_toInt (by omega)
            have t_n1 : (nI B).toInt = (B : Int) := nI_toInt (by omega)
            have t_n2 : (nI D).toInt = (D : Int) := nI_toInt (by omega)
            have t_n0 : (nI N).toInt = (N : Int) := nI_toInt (by omega)
            have t_n1 : (nI B).toInt = (B : Int) := nI_toInt (by omega)
            have t_n2 : (nI D).toInt = (D : Int) := nI_toInt (by omega)
            first | rfl | ((repeat' split) <;> first | rfl | omega)
          refine W.widen (k := 0) (n := 0) (by omega) (by omega) ?_
          exact W.zret (v := 0) hx hb hr (by first | rfl | decide | exact rfl) (fun t ht hW => ⟨⟨0, (), rfl, ⟨hpost, trivial⟩, trivial⟩, hS.F ht⟩) hS.2.2 dX9_canHand_35
        · skip
          have b21 := if10_p c19
          refine lv_iconst (v := 1) hx hb dX9_canHand_30 (by decide) ?_
          refine lv_goto (tgt := 35) hx hb dX9_canHand_31 (by decide) ?_
          have hpost : (1 : Int32) = if (0 ≤ i.toInt ∧ i.toInt < ((N : Nat) : Int)) ∧ (g.toInt = -4 ∨ (0 ≤ g.toInt ∧ g.toInt < ((B : Nat) : Int))) ∧ (0 ≤ k.toInt ∧ k.toInt < ((B : Nat) : Int)) then 1 else 0 := by
            have t_b5 := b5
            have t_c6 := neI c6
            have t_b16 := b16
            have t_b21 := b21
            have : ((-4) : Int32).toInt = -4 := (by decide)
            have t_n0 : (nI N).toInt = (N : Int) := nI_toInt (by omega)
            have t_n1 : (nI B).toInt = (B : Int) := nI_toInt (by omega)
            have t_n2 : (nI D).toInt = (D : Int) := nI_toInt (by omega)
            have t_n0 : (nI N).toInt = (N : Int) := nI_toInt (by omega)
            have t_n1 : (nI B).toInt = (B : Int) := nI_toInt (by omega)
            have t_n2 : (nI D).toInt = (D : Int) := nI_toInt (by omega)
            first | rfl | ((repeat' split) <;> first | rfl | omega)
          refine W.widen (k := 0) (n := 0) (by omega) (by omega) ?_
          exact W.zret (v := 1) hx hb hr (by first | rfl | decide | exact rfl) (fun t ht hW => ⟨⟨1, (), rfl, ⟨hpost, trivial⟩, trivial⟩, hS.F ht⟩) hS.2.2 dX9_canHand_35

set_option maxHeartbeats 1000000 in
set_option maxRecDepth 100000 in
theorem c_J9_max (l : Launch) (dC : Nat → ClassId) (dI : Nat → Nat → Nat) (G : Nat → ClassId) (sz : Nat) (x1 x2 : Int32)  : Met l yJ9_max_7cf53 (Cond.code yJ9_max_7cf53 cJ9_max_7cf53 2 (some .int) :: GT) ({ frames := 0, cells := 0, slots := 0, locals := 0 } : Room) (PcR [.int x1, .int x2] dC dI G [] sz) (va_Qi (fun (r : Int32) (u : Unit) => match u with | _ => (r = mx x1 x2) ∧ True) (fun _ _ => True) (fun q : Nat => sz ≤ q)) 0 0 (fun q : Nat => sz ≤ q) := by
  refine va_MetF (cc := cJ9_max_7cf53) (maxL := 2) (ret := (some .int)) (by decide +kernel) rfl ?_
  intro p e s m args below meth c s₁ Bd hml hv
  obtain ⟨rfl, hsz, hP, hK⟩ := hv
  have hx := Bd.exec
  have hb := Bd.bytes
  have hr := Bd.returns
  have hg : ∀ w ∈ GT, w.before ([.int x1, .int x2] : List Value).toArray s = true := fun w h => atoms_spec (ws := Cond.code yJ9_max_7cf53 cJ9_max_7cf53 2 (some .int) :: GT) Bd.pre w (List.mem_cons_of_mem _ h)
  have hown : s.vm.findClass RJ9 = some m.cls := findClass_of_methodNamed Bd.named
  have hlocks := Bd.notSynchronized
  subst hsz
  have hA : ∀ q : Nat, s.heap.size ≤ q → (fun q : Nat => s.heap.size ≤ q) q := fun _ h => h
  have hS : va_S (fun q : Nat => s.heap.size ≤ q) s.heap s.heap [] := va_S.rf
  have hl := lv_entry ([.int x1, .int x2]) (n := 2) (Nat.le_of_ble_eq_true rfl)
  rw [lg_entry_eq]
  generalize (lg_sl ([.int x1, .int x2]) ++ List.replicate (2 - (lg_sl ([.int x1, .int x2])).length) Slot.unset).toArray = ls at hl ⊢
  have hl : lv_has ls 2 [(0, .int x1), (1, .int x2)] := hl
  refine lv_iload_n hx hb dJ9_max_7cf53_0 rfl (lv_at hl 0 rfl) ?_
  refine lv_iload_n hx hb dJ9_max_7cf53_1 rfl (lv_at hl 1 rfl) ?_
  refine lv_icmp_lt (tgt := 9) hx hb dJ9_max_7cf53_2 (by decide) (fun c1 => ?_) (fun c1 => ?_)
  · skip
    refine lv_iload_n hx hb dJ9_max_7cf53_9 rfl (lv_at hl 1 rfl) ?_
    have hpost : (x2 : Int32) = mx x1 x2 := by
      have t_c1 := ltI c1
      unfold mx
      split <;> first | rfl | omega
    refine W.widen (k := 0) (n := 0) (by omega) (by omega) ?_
    exact W.iret (v := x2) hx hb hr (fun t ht hW => ⟨⟨x2, (), rfl, ⟨hpost, trivial⟩, trivial⟩, hS.F ht⟩) hS.2.2 dJ9_max_7cf53_10
  · skip
    refine lv_iload_n hx hb dJ9_max_7cf53_5 rfl (lv_at hl 0 rfl) ?_
    refine lv_goto (tgt := 10) hx hb dJ9_max_7cf53_6 (by decide) ?_
    have hpost : (x1 : Int32) = mx x1 x2 := by
      have t_c1 := nltI c1
      unfold mx
      split <;> first | rfl | omega
    refine W.widen (k := 0) (n := 0) (by omega) (by omega) ?_
    exact W.iret (v := x1) hx hb hr (fun t ht hW => ⟨⟨x1, (), rfl, ⟨hpost, trivial⟩, trivial⟩, hS.F ht⟩) hS.2.2 dJ9_max_7cf53_10

set_option maxHeartbeats 1000000 in
set_option maxRecDepth 100000 in
theorem c_J9_min (l : Launch) (dC : Nat → ClassId) (dI : Nat → Nat → Nat) (G : Nat → ClassId) (sz : Nat) (x1 x2 : Int32)  : Met l yJ9_min_7cf53 (Cond.code yJ9_min_7cf53 cJ9_min_7cf53 2 (some .int) :: GT) ({ frames := 0, cells := 0, slots := 0, locals := 0 } : Room) (PcR [.int x1, .int x2] dC dI G [] sz) (va_Qi (fun (r : Int32) (u : Unit) => match u with | _ => (r = mn x1 x2) ∧ True) (fun _ _ => True) (fun q : Nat => sz ≤ q)) 0 0 (fun q : Nat => sz ≤ q) := by
  refine va_MetF (cc := cJ9_min_7cf53) (maxL := 2) (ret := (some .int)) (by decide +kernel) rfl ?_
  intro p e s m args below meth c s₁ Bd hml hv
  obtain ⟨rfl, hsz, hP, hK⟩ := hv
  have hx := Bd.exec
  have hb := Bd.bytes
  have hr := Bd.returns
  have hg : ∀ w ∈ GT, w.before ([.int x1, .int x2] : List Value).toArray s = true := fun w h => atoms_spec (ws := Cond.code yJ9_min_7cf53 cJ9_min_7cf53 2 (some .int) :: GT) Bd.pre w (List.mem_cons_of_mem _ h)
  have hown : s.vm.findClass RJ9 = some m.cls := findClass_of_methodNamed Bd.named
  have hlocks := Bd.notSynchronized
  subst hsz
  have hA : ∀ q : Nat, s.heap.size ≤ q → (fun q : Nat => s.heap.size ≤ q) q := fun _ h => h
  have hS : va_S (fun q : Nat => s.heap.size ≤ q) s.heap s.heap [] := va_S.rf
  have hl := lv_entry ([.int x1, .int x2]) (n := 2) (Nat.le_of_ble_eq_true rfl)
  rw [lg_entry_eq]
  generalize (lg_sl ([.int x1, .int x2]) ++ List.replicate (2 - (lg_sl ([.int x1, .int x2])).length) Slot.unset).toArray = ls at hl ⊢
  have hl : lv_has ls 2 [(0, .int x1), (1, .int x2)] := hl
  refine lv_iload_n hx hb dJ9_min_7cf53_0 rfl (lv_at hl 0 rfl) ?_
  refine lv_iload_n hx hb dJ9_min_7cf53_1 rfl (lv_at hl 1 rfl) ?_
  refine lv_icmp_gt (tgt := 9) hx hb dJ9_min_7cf53_2 (by decide) (fun c1 => ?_) (fun c1 => ?_)
  · skip
    refine lv_iload_n hx hb dJ9_min_7cf53_9 rfl (lv_at hl 1 rfl) ?_
    have hpost : (x2 : Int32) = mn x1 x2 := by
      have t_c1 := ltI c1
      unfold mn
      split <;> first | rfl | omega
    refine W.widen (k := 0) (n := 0) (by omega) (by omega) ?_
    exact W.iret (v := x2) hx hb hr (fun t ht hW => ⟨⟨x2, (), rfl, ⟨hpost, trivial⟩, trivial⟩, hS.F ht⟩) hS.2.2 dJ9_min_7cf53_10
  · skip
    refine lv_iload_n hx hb dJ9_min_7cf53_5 rfl (lv_at hl 0 rfl) ?_
    refine lv_goto (tgt := 10) hx hb dJ9_min_7cf53_6 (by decide) ?_
    have hpost : (x1 : Int32) = mn x1 x2 := by
      have t_c1 := nltI c1
      unfold mn
      split <;> first | rfl | omega
    refine W.widen (k := 0) (n := 0) (by omega) (by omega) ?_
    exact W.iret (v := x1) hx hb hr (fun t ht hW => ⟨⟨x1, (), rfl, ⟨hpost, trivial⟩, trivial⟩, hS.F ht⟩) hS.2.2 dJ9_min_7cf53_10

set_option maxHeartbeats 1000000 in
set_option maxRecDepth 100000 in
theorem c_J9_abs (l : Launch) (dC : Nat → ClassId) (dI : Nat → Nat → Nat) (G : Nat → ClassId) (sz : Nat) (x1 : Int32)  : Met l yJ9_abs_0f7a4 (Cond.code yJ9_abs_0f7a4 cJ9_abs_0f7a4 1 (some .int) :: GT) ({ frames := 0, cells := 0, slots := 0, locals := 0 } : Room) (PcR [.int x1] dC dI G [] sz) (va_Qi (fun (r : Int32) (u : Unit) => match u with | _ => (r = ab x1) ∧ True) (fun _ _ => True) (fun q : Nat => sz ≤ q)) 0 0 (fun q : Nat => sz ≤ q) := by
  refine va_MetF (cc := cJ9_abs_0f7a4) (maxL := 1) (ret := (some .int)) (by decide +kernel) rfl ?_
  intro p e s m args below meth c s₁ Bd hml hv
  obtain ⟨rfl, hsz, hP, hK⟩ := hv
  have hx := Bd.exec
  have hb := Bd.bytes
  have hr := Bd.returns
  have hg : ∀ w ∈ GT, w.before ([.int x1] : List Value).toArray s = true := fun w h => atoms_spec (ws := Cond.code yJ9_abs_0f7a4 cJ9_abs_0f7a4 1 (some .int) :: GT) Bd.pre w (List.mem_cons_of_mem _ h)
  have hown : s.vm.findClass RJ9 = some m.cls := findClass_of_methodNamed Bd.named
  have hlocks := Bd.notSynchronized
  subst hsz
  have hA : ∀ q : Nat, s.heap.size ≤ q → (fun q : Nat => s.heap.size ≤ q) q := fun _ h => h
  have hS : va_S (fun q : Nat => s.heap.size ≤ q) s.heap s.heap [] := va_S.rf
  have hl := lv_entry ([.int x1]) (n := 1) (Nat.le_of_ble_eq_true rfl)
  rw [lg_entry_eq]
  generalize (lg_sl ([.int x1]) ++ List.replicate (1 - (lg_sl ([.int x1])).length) Slot.unset).toArray = ls at hl ⊢
  have hl : lv_has ls 1 [(0, .int x1)] := hl
  refine lv_iload_n hx hb dJ9_abs_0f7a4_0 rfl (lv_at hl 0 rfl) ?_
  refine lv_if_ge (tgt := 9) hx hb dJ9_abs_0f7a4_1 (by decide) (fun c1 => ?_) (fun c1 => ?_)
  · skip
    refine lv_iload_n hx hb dJ9_abs_0f7a4_9 rfl (lv_at hl 0 rfl) ?_
    have hpost : (x1 : Int32) = ab x1 := by
      have t_c1 := leI c1
      have : (0 : Int32).toInt = 0 := (by decide)
      unfold ab
      split <;> first | rfl | omega
    refine W.widen (k := 0) (n := 0) (by omega) (by omega) ?_
    exact W.iret (v := x1) hx hb hr (fun t ht hW => ⟨⟨x1, (), rfl, ⟨hpost, trivial⟩, trivial⟩, hS.F ht⟩) hS.2.2 dJ9_abs_0f7a4_10
  · skip
    refine lv_iload_n hx hb dJ9_abs_0f7a4_4 rfl (lv_at hl 0 rfl) ?_
    refine lv_ineg hx hb dJ9_abs_0f7a4_5 ?_
    refine lv_goto (tgt := 10) hx hb dJ9_abs_0f7a4_6 (by decide) ?_
    have hpost : (-x1 : Int32) = ab x1 := by
      have t_c1 := nleI c1
      have : (0 : Int32).toInt = 0 := (by decide)
      unfold ab
      split <;> first | rfl | omega
    refine W.widen (k := 0) (n := 0) (by omega) (by omega) ?_
    exact W.iret (v := -x1) hx hb hr (fun t ht hW => ⟨⟨-x1, (), rfl, ⟨hpost, trivial⟩, trivial⟩, hS.F ht⟩) hS.2.2 dJ9_abs_0f7a4_10

set_option maxHeartbeats 1000000 in
set_option maxRecDepth 100000 in
theorem c_X9_noiseBy (l : Launch) (dC : Nat → ClassId) (dI : Nat → Nat → Nat) (G : Nat → ClassId) (sz : Nat) (h0 a1 a2 a3 a4 a5 a6 N B D i k : Nat) (f1 f4 : Nat → Int32) (hN_N : N ≤ 10) (hB_B : B ≤ 6) (hD_D : 1 ≤ D ∧ D ≤ 9) (hi : i < 10) (hk : k < 6) : Met l yX9_noiseBy (Cond.code yX9_noiseBy cX9_noiseBy 4 (some .int) :: GT) ({ frames := 1, cells := 0, slots := 0, locals := 21 } : Room) (PcR [.ref h0, .int (nI i), .int (nI k)] dC dI G [(h0, .inr (9, [.int (nI N), .int (nI B), .int (nI D), .ref a1, .ref a2, .ref a3, .ref a4, .ref a5, .ref a6])), (a1, .inl (G 0, 10, .inl f1)), (a4, .inl (G 0, 6, .inl f4))] sz) (va_Qi (fun (r : Int32) (u : Unit) => match u with | _ => (r = nzF (f1 i) (f4 k)) ∧ True) (fun _ _ => True) (fun q : Nat => sz ≤ q)) 0 0 (fun q : Nat => sz ≤ q) := by
  refine Met.ofW (cc := cX9_noiseBy) (maxL := 4) (ret := (some .int)) (by decide) rfl ?_
  intro p e s m args below meth c s₁ Bd hml hv
  obtain ⟨rfl, hsz, hP, hK⟩ := hv
  have hx := Bd.exec
  have hb := Bd.bytes
  have hr := Bd.returns
  have hg : ∀ w ∈ GT, w.before ([.ref h0, .int (nI i), .int (nI k)] : List Value).toArray s = true := fun w h => atoms_spec (ws := Cond.code yX9_noiseBy cX9_noiseBy 4 (some .int) :: GT) Bd.pre w (List.mem_cons_of_mem _ h)
  have hown : s.vm.findClass RX9 = some m.cls := findClass_of_methodNamed Bd.named
  have hlocks := Bd.notSynchronized
  subst hsz
  have hA : ∀ q : Nat, s.heap.size ≤ q → (fun q : Nat => s.heap.size ≤ q) q := fun _ h => h
  have hS : va_S (fun q : Nat => s.heap.size ≤ q) s.heap s.heap [] := va_S.rf
  have hl := lv_entry ([.ref h0, .int (nI i), .int (nI k)]) (n := 4) (Nat.le_of_ble_eq_true rfl)
  rw [lg_entry_eq]
  generalize (lg_sl ([.ref h0, .int (nI i), .int (nI k)]) ++ List.replicate (4 - (lg_sl ([.ref h0, .int (nI i), .int (nI k)])).length) Slot.unset).toArray = ls at hl ⊢
  have hl : lv_has ls 4 [(0, .ref h0), (1, .int (nI i)), (2, .int (nI k))] := hl
  refine lv_aload_n hx hb dX9_noiseBy_0 rfl (lv_at hl 0 rfl) ?_
  refine va_get (D := (dC, dI)) (ci := 9) (v := .ref a4) (C := RX9) (T := TX9) (N := 9) hx hb hg inG9 hown hK.1 hP 0 rfl rfl 6 (by decide) (hg _ wt_80) (fun _ h9 => h9) rfl dX9_noiseBy_1 ?_
  refine lv_iload_n hx hb dX9_noiseBy_4 rfl (lv_at hl 2 rfl) ?_
  refine va_iald hx hb hK.1 hP 2 0 rfl rfl (vp_in_nI (by have t_n0 : (nI i).toInt = (i : Int) := nI_toInt (by omega); have t_n1 : (nI k).toInt = (k : Int) := nI_toInt (by omega); have t_n2 : (nI N).toInt = (N : Int) := nI_toInt (by omega); have t_n3 : (nI B).toInt = (B : Int) := nI_toInt (by omega); have t_n4 : (nI D).toInt = (D : Int) := nI_toInt (by omega); omega) (by decide)) dX9_noiseBy_5 ?_
  refine lv_cg (y := f4 k) (by rw [nI_clamp (by omega)]) ?_
  refine lv_iconst (v := 1) hx hb dX9_noiseBy_6 (by decide) ?_
  refine lv_icmp_ne (tgt := 14) hx hb dX9_noiseBy_7 (by decide) (fun c1 => ?_) (fun c1 => ?_)
  · skip
    refine lv_aload_n hx hb dX9_noiseBy_14 rfl (lv_at hl 0 rfl) ?_
    refine va_get (D := (dC, dI)) (ci := 9) (v := .ref a4) (C := RX9) (T := TX9) (N := 9) hx hb hg inG9 hown hK.1 hP 0 rfl rfl 6 (by decide) (hg _ wt_80) (fun _ h9 => h9) rfl dX9_noiseBy_15 ?_
    refine lv_iload_n hx hb dX9_noiseBy_18 rfl (lv_at hl 2 rfl) ?_
    refine va_iald hx hb hK.1 hP 2 0 rfl rfl (vp_in_nI (by have t_c1 := neI c1; have : (1 : Int32).toInt = 1 := (by decide); have t_n0 : (nI i).toInt = (i : Int) := nI_toInt (by omega); have t_n1 : (nI k).toInt = (k : Int) := nI_toInt (by omega); have t_n2 : (nI N).toInt = (N : Int) := nI_toInt (by omega); have t_n3 : (nI B).toInt = (B : Int) := nI_toInt (by omega); have t_n4 : (nI D).toInt = (D : Int) := nI_toInt (by omega); omega) (by decide)) dX9_noiseBy_19 ?_
    refine lv_cg (y := f4 k) (by rw [nI_clamp (by omega)]) ?_
    refine lv_iconst (v := 3) hx hb dX9_noiseBy_20 (by decide) ?_
    refine lv_icmp_ne (tgt := 28) hx hb dX9_noiseBy_21 (by decide) (fun c2 => ?_) (fun c2 => ?_)
    · skip
      refine lv_iconst (v := 0) hx hb dX9_noiseBy_28 (by decide) ?_
      refine lv_istore_n (lv' := [(3, .int 0), (0, .ref h0), (1, .int (nI i)), (2, .int (nI k))]) hx hb dX9_noiseBy_29 rfl hl (by decide) rfl (fun ls hl => ?_)
      refine lv_iconst (v := 0) hx hb dX9_noiseBy_30 (by decide) ?_
      refine lv_aload_n hx hb dX9_noiseBy_31 rfl (lv_at hl 1 rfl) ?_
      refine va_get (D := (dC, dI)) (ci := 9) (v := .ref a1) (C := RX9) (T := TX9) (N := 9) hx hb hg inG9 hown hK.1 hP 0 rfl rfl 3 (by decide) (hg _ wt_73) (fun _ h9 => h9) rfl dX9_noiseBy_32 ?_
      refine lv_iload_n hx hb dX9_noiseBy_35 rfl (lv_at hl 2 rfl) ?_
      refine va_iald hx hb hK.1 hP 1 0 rfl rfl (vp_in_nI (by have t_c1 := neI c1; have t_c2 := neI c2; have : (1 : Int32).toInt = 1 := (by decide); have : (3 : Int32).toInt = 3 := (by decide); have t_n0 : (nI i).toInt = (i : Int) := nI_toInt (by omega); have t_n1 : (nI k).toInt = (k : Int) := nI_toInt (by omega); have t_n2 : (nI N).toInt = (N : Int) := nI_toInt (by omega); have t_n3 : (nI B).toInt = (B : Int) := nI_toInt (by omega); have t_n4 : (nI D).toInt = (D : Int) := nI_toInt (by omega); omega) (by decide)) dX9_noiseBy_36 ?_
      refine lv_cg (y := f1 i) (by rw [nI_clamp (by omega)]) ?_
      refine lv_iload_n hx hb dX9_noiseBy_37 rfl (lv_at hl 0 rfl) ?_
      refine lv_isub hx hb dX9_noiseBy_38 ?_
      have hPc := hP.sub (ws' := []) [] rfl
      refine va_calli (va_runS (As := [.int 0, .int ((f1 i) - 0)]) (rest := []) ⟨hx, hb, hml, hown, hg⟩ (c_J9_max l dC dI G _ 0 ((f1 i) - 0) ) (kwS hg mfJ9_max_7cf53 wt_585 ⟨Nat.le_of_ble_eq_true rfl, Nat.le_of_ble_eq_true rfl⟩) (preSR hK hPc) rfl rfl hl.1 rfl (lv_room (Nat.le_of_ble_eq_true rfl)) dX9_noiseBy_39 ⟨Nat.le_of_ble_eq_true rfl, Nat.le_of_ble_eq_true rfl⟩) hS (fun q h1 h2 => absurd h2 (Nat.not_le.mpr h1)) (fun q h => hA q (Nat.le_trans hS.1 h)) (fun r3 ur3 t H1 locs ht hvm w4 hB hz1 hk1 hS => ?_)
      have hP := keepR hP hk1
      obtain ⟨w4, w4x⟩ := w4
      subst w4
      have hpost : (mx 0 ((f1 i) - 0) : Int32) = nzF (f1 i) (f4 k) := by
        unfold nzF
        (repeat' split) <;> first | rfl | contradiction | (exfalso; simp_all; done) | simp_all
      refine W.widen (k := 0) (n := 0) (by omega) (by omega) ?_
      exact W.iret (v := mx 0 ((f1 i) - 0)) hx hb hr (fun t ht hW => ⟨⟨mx 0 ((f1 i) - 0), (), rfl, ⟨hpost, trivial⟩, trivial⟩, hS.F ht⟩) hS.2.2 dX9_noiseBy_42
    · skip
      refine lv_iconst (v := 1) hx hb dX9_noiseBy_24 (by decide) ?_
      refine lv_goto (tgt := 29) hx hb dX9_noiseBy_25 (by decide) ?_
      refine lv_istore_n (lv' := [(3, .int 1), (0, .ref h0), (1, .int (nI i)), (2, .int (nI k))]) hx hb dX9_noiseBy_29 rfl hl (by decide) rfl (fun ls hl => ?_)
      refine lv_iconst (v := 0) hx hb dX9_noiseBy_30 (by decide) ?_
      refine lv_aload_n hx hb dX9_noiseBy_31 rfl (lv_at hl 1 rfl) ?_
      refine va_get (D := (dC, dI)) (ci := 9) (v := .ref a1) (C := RX9) (T := TX9) (N := 9) hx hb hg inG9 hown hK.1 hP 0 rfl rfl 3 (by decide) (hg _ wt_73) (fun _ h9 => h9) rfl dX9_noiseBy_32 ?_
      refine lv_iload_n hx hb dX9_noiseBy_35 rfl (lv_at hl 2 rfl) ?_
      refine va_iald hx hb hK.1 hP 1 0 rfl rfl (vp_in_nI (by have t_c1 := neI c1; have t_c2 := eqI c2; have : (1 : Int32).toInt = 1 := (by decide); have : (3 : Int32).toInt = 3 := (by decide); have t_n0 : (nI i).toInt = (i : Int) := nI_toInt (by omega); have t_n1 : (nI k).toInt = (k : Int) := nI_toInt (by omega); have t_n2 : (nI N).toInt = (N : Int) := nI_toInt (by omega); have t_n3 : (nI B).toInt = (B : Int) := nI_toInt (by omega); have t_n4 : (nI D).toInt = (D : Int) := nI_toInt (by omega); omega) (by decide)) dX9_noiseBy_36 ?_
      refine lv_cg (y := f1 i) (by rw [nI_clamp (by omega)]) ?_
      refine lv_iload_n hx hb dX9_noiseBy_37 rfl (lv_at hl 0 rfl) ?_
      refine lv_isub hx hb dX9_noiseBy_38 ?_
      have hPc := hP.sub (ws' := []) [] rfl
      refine va_calli (va_runS (As := [.int 0, .int ((f1 i) - 1)]) (rest := []) ⟨hx, hb, hml, hown, hg⟩ (c_J9_max l dC dI G _ 0 ((f1 i) - 1) ) (kwS hg mfJ9_max_7cf53 wt_585 ⟨Nat.le_of_ble_eq_true rfl, Nat.le_of_ble_eq_true rfl⟩) (preSR hK hPc) rfl rfl hl.1 rfl (lv_room (Nat.le_of_ble_eq_true rfl)) dX9_noiseBy_39 ⟨Nat.le_of_ble_eq_true rfl, Nat.le_of_ble_eq_true rfl⟩) hS (fun q h1 h2 => absurd h2 (Nat.not_le.mpr h1)) (fun q h => hA q (Nat.le_trans hS.1 h)) (fun r5 ur5 t H1 locs ht hvm w6 hB hz1 hk1 hS => ?_)
      have hP := keepR hP hk1
      obtain ⟨w6, w6x⟩ := w6
      subst w6
      have hpost : (mx 0 ((f1 i) - 1) : Int32) = nzF (f1 i) (f4 k) := by
        unfold nzF
        (repeat' split) <;> first | rfl | contradiction | (exfalso; simp_all; done) | simp_all
      refine W.widen (k := 0) (n := 0) (by omega) (by omega) ?_
      exact W.iret (v := mx 0 ((f1 i) - 1)) hx hb hr (fun t ht hW => ⟨⟨mx 0 ((f1 i) - 1), (), rfl, ⟨hpost, trivial⟩, trivial⟩, hS.F ht⟩) hS.2.2 dX9_noiseBy_42
  · skip
    refine lv_iconst (v := 2) hx hb dX9_noiseBy_10 (by decide) ?_
    refine lv_goto (tgt := 29) hx hb dX9_noiseBy_11 (by decide) ?_
    refine lv_istore_n (lv' := [(3, .int 2), (0, .ref h0), (1, .int (nI i)), (2, .int (nI k))]) hx hb dX9_noiseBy_29 rfl hl (by decide) rfl (fun ls hl => ?_)
    refine lv_iconst (v := 0) hx hb dX9_noiseBy_30 (by decide) ?_
    refine lv_aload_n hx hb dX9_noiseBy_31 rfl (lv_at hl 1 rfl) ?_
    refine va_get (D := (dC, dI)) (ci := 9) (v := .ref a1) (C := RX9) (T := TX9) (N := 9) hx hb hg inG9 hown hK.1 hP 0 rfl rfl 3 (by decide) (hg _ wt_73) (fun _ h9 => h9) rfl dX9_noiseBy_32 ?_
    refine lv_iload_n hx hb dX9_noiseBy_35 rfl (lv_at hl 2 rfl) ?_
    refine va_iald hx hb hK.1 hP 1 0 rfl rfl (vp_in_nI (by have t_c1 := eqI c1; have : (1 : Int32).toInt = 1 := (by decide); have t_n0 : (nI i).toInt = (i : Int) := nI_toInt (by omega); have t_n1 : (nI k).toInt = (k : Int) := nI_toInt (by omega); have t_n2 : (nI N).toInt = (N : Int) := nI_toInt (by omega); have t_n3 : (nI B).toInt = (B : Int) := nI_toInt (by omega); have t_n4 : (nI D).toInt = (D : Int) := nI_toInt (by omega); omega) (by decide)) dX9_noiseBy_36 ?_
    refine lv_cg (y := f1 i) (by rw [nI_clamp (by omega)]) ?_
    refine lv_iload_n hx hb dX9_noiseBy_37 rfl (lv_at hl 0 rfl) ?_
    refine lv_isub hx hb dX9_noiseBy_38 ?_
    have hPc := hP.sub (ws' := []) [] rfl
    refine va_calli (va_runS (As := [.int 0, .int ((f1 i) - 2)]) (rest := []) ⟨hx, hb, hml, hown, hg⟩ (c_J9_max l dC dI G _ 0 ((f1 i) - 2) ) (kwS hg mfJ9_max_7cf53 wt_585 ⟨Nat.le_of_ble_eq_true rfl, Nat.le_of_ble_eq_true rfl⟩) (preSR hK hPc) rfl rfl hl.1 rfl (lv_room (Nat.le_of_ble_eq_true rfl)) dX9_noiseBy_39 ⟨Nat.le_of_ble_eq_true rfl, Nat.le_of_ble_eq_true rfl⟩) hS (fun q h1 h2 => absurd h2 (Nat.not_le.mpr h1)) (fun q h => hA q (Nat.le_trans hS.1 h)) (fun r7 ur7 t H1 locs ht hvm w8 hB hz1 hk1 hS => ?_)
    have hP := keepR hP hk1
    obtain ⟨w8, w8x⟩ := w8
    subst w8
    have hpost : (mx 0 ((f1 i) - 2) : Int32) = nzF (f1 i) (f4 k) := by
      unfold nzF
      (repeat' split) <;> first | rfl | contradiction | (exfalso; simp_all; done) | simp_all
    refine W.widen (k := 0) (n := 0) (by omega) (by omega) ?_
    exact W.iret (v := mx 0 ((f1 i) - 2)) hx hb hr (fun t ht hW => ⟨⟨mx 0 ((f1 i) - 2), (), rfl, ⟨hpost, trivial⟩, trivial⟩, hS.F ht⟩) hS.2.2 dX9_noiseBy_42

set_option maxHeartbeats 1000000 in
set_option maxRecDepth 100000 in
theorem c_X9_coldBy (l : Launch) (dC : Nat → ClassId) (dI : Nat → Nat → Nat) (G : Nat → ClassId) (sz : Nat) (h0 a1 a2 a3 a4 a5 a6 N B D i k : Nat) (f2 f4 f6 : Nat → Int32) (hN_N : N ≤ 10) (hB_B : B ≤ 6) (hD_D : 1 ≤ D ∧ D ≤ 9) (hi : i < 10) (hk : k < 6) : Met l yX9_coldBy (Cond.code yX9_coldBy cX9_coldBy 4 (some .int) :: GT) ({ frames := 1, cells := 0, slots := 0, locals := 21 } : Room) (PcR [.ref h0, .int (nI i), .int (nI k)] dC dI G [(h0, .inr (9, [.int (nI N), .int (nI B), .int (nI D), .ref a1, .ref a2, .ref a3, .ref a4, .ref a5, .ref a6])), (a2, .inl (G 0, 10, .inl f2)), (a4, .inl (G 0, 6, .inl f4)), (a6, .inl (G 0, 6, .inl f6))] sz) (va_Qi (fun (r : Int32) (u : Unit) => match u with | _ => (r = cdF (f2 i) (f6 k) (f4 k)) ∧ True) (fun _ _ => True) (fun q : Nat => sz ≤ q)) 0 0 (fun q : Nat => sz ≤ q) := by
  refine Met.ofW (cc := cX9_coldBy) (maxL := 4) (ret := (some .int)) (by decide) rfl ?_
  intro p e s m args below meth c s₁ Bd hml hv
  obtain ⟨rfl, hsz, hP, hK⟩ := hv
  have hx := Bd.exec
  have hb := Bd.bytes
  have hr := Bd.returns
  have hg : ∀ w ∈ GT, w.before ([.ref h0, .int (nI i), .int (nI k)] : List Value).toArray s = true := fun w h => atoms_spec (ws := Cond.code yX9_coldBy cX9_coldBy 4 (some .int) :: GT) Bd.pre w (List.mem_cons_of_mem _ h)
  have hown : s.vm.findClass RX9 = some m.cls := findClass_of_methodNamed Bd.named
  have hlocks := Bd.notSynchronized
  subst hsz
  have hA : ∀ q : Nat, s.heap.size ≤ q → (fun q : Nat => s.heap.size ≤ q) q := fun _ h => h
  have hS : va_S (fun q : Nat => s.heap.size ≤ q) s.heap s.heap [] := va_S.rf
  have hl := lv_entry ([.ref h0, .int (nI i), .int (nI k)]) (n := 4) (Nat.le_of_ble_eq_true rfl)
  rw [lg_entry_eq]
  generalize (lg_sl ([.ref h0, .int (nI i), .int (nI k)]) ++ List.replicate (4 - (lg_sl ([.ref h0, .int (nI i), .int (nI k)])).length) Slot.unset).toArray = ls at hl ⊢
  have hl : lv_has ls 4 [(0, .ref h0), (1, .int (nI i)), (2, .int (nI k))] := hl
  refine lv_aload_n hx hb dX9_coldBy_0 rfl (lv_at hl 0 rfl) ?_
  refine va_get (D := (dC, dI)) (ci := 9) (v := .ref a4) (C := RX9) (T := TX9) (N := 9) hx hb hg inG9 hown hK.1 hP 0 rfl rfl 6 (by decide) (hg _ wt_80) (fun _ h9 => h9) rfl dX9_coldBy_1 ?_
  refine lv_iload_n hx hb dX9_coldBy_4 rfl (lv_at hl 2 rfl) ?_
  refine va_iald hx hb hK.1 hP 2 0 rfl rfl (vp_in_nI (by have t_n0 : (nI i).toInt = (i : Int) := nI_toInt (by omega); have t_n1 : (nI k).toInt = (k : Int) := nI_toInt (by omega); have t_n2 : (nI N).toInt = (N : Int) := nI_toInt (by omega); have t_n3 : (nI B).toInt = (B : Int) := nI_toInt (by omega); have t_n4 : (nI D).toInt = (D : Int) := nI_toInt (by omega); omega) (by decide)) dX9_coldBy_5 ?_
  refine lv_cg (y := f4 k) (by rw [nI_clamp (by omega)]) ?_
  refine lv_iconst (v := 2) hx hb dX9_coldBy_6 (by decide) ?_
  refine lv_icmp_ne (tgt := 24) hx hb dX9_coldBy_7 (by decide) (fun c1 => ?_) (fun c1 => ?_)
  · skip
    refine lv_iconst (v := 0) hx hb dX9_coldBy_24 (by decide) ?_
    refine lv_istore_n (lv' := [(3, .int 0), (0, .ref h0), (1, .int (nI i)), (2, .int (nI k))]) hx hb dX9_coldBy_25 rfl hl (by decide) rfl (fun ls hl => ?_)
    refine lv_iconst (v := 0) hx hb dX9_coldBy_26 (by decide) ?_
    refine lv_aload_n hx hb dX9_coldBy_27 rfl (lv_at hl 1 rfl) ?_
    refine va_get (D := (dC, dI)) (ci := 9) (v := .ref a2) (C := RX9) (T := TX9) (N := 9) hx hb hg inG9 hown hK.1 hP 0 rfl rfl 4 (by decide) (hg _ wt_75) (fun _ h9 => h9) rfl dX9_coldBy_28 ?_
    refine lv_iload_n hx hb dX9_coldBy_31 rfl (lv_at hl 2 rfl) ?_
    refine va_iald hx hb hK.1 hP 1 0 rfl rfl (vp_in_nI (by have t_c1 := neI c1; have : (2 : Int32).toInt = 2 := (by decide); have t_n0 : (nI i).toInt = (i : Int) := nI_toInt (by omega); have t_n1 : (nI k).toInt = (k : Int) := nI_toInt (by omega); have t_n2 : (nI N).toInt = (N : Int) := nI_toInt (by omega); have t_n3 : (nI B).toInt = (B : Int) := nI_toInt (by omega); have t_n4 : (nI D).toInt = (D : Int) := nI_toInt (by omega); omega) (by decide)) dX9_coldBy_32 ?_
    refine lv_cg (y := f2 i) (by rw [nI_clamp (by omega)]) ?_
    refine lv_aload_n hx hb dX9_coldBy_33 rfl (lv_at hl 1 rfl) ?_
    refine va_get (D := (dC, dI)) (ci := 9) (v := .ref a6) (C := RX9) (T := TX9) (N := 9) hx hb hg inG9 hown hK.1 hP 0 rfl rfl 8 (by decide) (hg _ wt_84) (fun _ h9 => h9) rfl dX9_coldBy_34 ?_
    refine lv_iload_n hx hb dX9_coldBy_37 rfl (lv_at hl 3 rfl) ?_
    refine va_iald hx hb hK.1 hP 3 0 rfl rfl (vp_in_nI (by have t_c1 := neI c1; have : (2 : Int32).toInt = 2 := (by decide); have t_n0 : (nI i).toInt = (i : Int) := nI_toInt (by omega); have t_n1 : (nI k).toInt = (k : Int) := nI_toInt (by omega); have t_n2 : (nI N).toInt = (N : Int) := nI_toInt (by omega); have t_n3 : (nI B).toInt = (B : Int) := nI_toInt (by omega); have t_n4 : (nI D).toInt = (D : Int) := nI_toInt (by omega); omega) (by decide)) dX9_coldBy_38 ?_
    refine lv_cg (y := f6 k) (by rw [nI_clamp (by omega)]) ?_
    refine lv_isub hx hb dX9_coldBy_39 ?_
    have hPc := hP.sub (ws' := []) [] rfl
    refine va_calli (va_runS (As := [.int 0, .int ((f2 i) - (f6 k))]) (rest := []) ⟨hx, hb, hml, hown, hg⟩ (c_J9_max l dC dI G _ 0 ((f2 i) - (f6 k)) ) (kwS hg mfJ9_max_7cf53 wt_585 ⟨Nat.le_of_ble_eq_true rfl, Nat.le_of_ble_eq_true rfl⟩) (preSR hK hPc) rfl rfl hl.1 rfl (lv_room (Nat.le_of_ble_eq_true rfl)) dX9_coldBy_40 ⟨Nat.le_of_ble_eq_true rfl, Nat.le_of_ble_eq_true rfl⟩) hS (fun q h1 h2 => absurd h2 (Nat.not_le.mpr h1)) (fun q h => hA q (Nat.le_trans hS.1 h)) (fun r2 ur2 t H1 locs ht hvm w3 hB hz1 hk1 hS => ?_)
    have hP := keepR hP hk1
    obtain ⟨w3, w3x⟩ := w3
    subst w3
    refine lv_iload_n hx hb dX9_coldBy_43 rfl (lv_at hl 0 rfl) ?_
    refine lv_iadd hx hb dX9_coldBy_44 ?_
    have hpost : ((mx 0 ((f2 i) - (f6 k))) + 0 : Int32) = cdF (f2 i) (f6 k) (f4 k) := by
      unfold cdF
      (repeat' split) <;> first | rfl | contradiction | (exfalso; simp_all; done) | simp_all
    refine W.widen (k := 0) (n := 0) (by omega) (by omega) ?_
    exact W.iret (v := (mx 0 ((f2 i) - (f6 k))) + 0) hx hb hr (fun t ht hW => ⟨⟨(mx 0 ((f2 i) - (f6 k))) + 0, (), rfl, ⟨hpost, trivial⟩, trivial⟩, hS.F ht⟩) hS.2.2 dX9_coldBy_45
  · skip
    refine lv_aload_n hx hb dX9_coldBy_10 rfl (lv_at hl 0 rfl) ?_
    refine va_get (D := (dC, dI)) (ci := 9) (v := .ref a2) (C := RX9) (T := TX9) (N := 9) hx hb hg inG9 hown hK.1 hP 0 rfl rfl 4 (by decide) (hg _ wt_75) (fun _ h9 => h9) rfl dX9_coldBy_11 ?_
    refine lv_iload_n hx hb dX9_coldBy_14 rfl (lv_at hl 1 rfl) ?_
    refine va_iald hx hb hK.1 hP 1 0 rfl rfl (vp_in_nI (by have t_c1 := eqI c1; have : (2 : Int32).toInt = 2 := (by decide); have t_n0 : (nI i).toInt = (i : Int) := nI_toInt (by omega); have t_n1 : (nI k).toInt = (k : Int) := nI_toInt (by omega); have t_n2 : (nI N).toInt = (N : Int) := nI_toInt (by omega); have t_n3 : (nI B).toInt = (B : Int) := nI_toInt (by omega); have t_n4 : (nI D).toInt = (D : Int) := nI_toInt (by omega); omega) (by decide)) dX9_coldBy_15 ?_
    refine lv_cg (y := f2 i) (by rw [nI_clamp (by omega)]) ?_
    refine lv_iconst (v := 5) hx hb dX9_coldBy_16 (by decide) ?_
    refine lv_icmp_lt (tgt := 24) hx hb dX9_coldBy_17 (by decide) (fun c4 => ?_) (fun c4 => ?_)
    · skip
      refine lv_iconst (v := 0) hx hb dX9_coldBy_24 (by decide) ?_
      refine lv_istore_n (lv' := [(3, .int 0), (0, .ref h0), (1, .int (nI i)), (2, .int (nI k))]) hx hb dX9_coldBy_25 rfl hl (by decide) rfl (fun ls hl => ?_)
      refine lv_iconst (v := 0) hx hb dX9_coldBy_26 (by decide) ?_
      refine lv_aload_n hx hb dX9_coldBy_27 rfl (lv_at hl 1 rfl) ?_
      refine va_get (D := (dC, dI)) (ci := 9) (v := .ref a2) (C := RX9) (T := TX9) (N := 9) hx hb hg inG9 hown hK.1 hP 0 rfl rfl 4 (by decide) (hg _ wt_75) (fun _ h9 => h9) rfl dX9_coldBy_28 ?_
      refine lv_iload_n hx hb dX9_coldBy_31 rfl (lv_at hl 2 rfl) ?_
      refine va_iald hx hb hK.1 hP 1 0 rfl rfl (vp_in_nI (by have t_c1 := eqI c1; have t_c4 := ltI c4; have : (2 : Int32).toInt = 2 := (by decide); have : (5 : Int32).toInt = 5 := (by decide); have t_n0 : (nI i).toInt = (i : Int) := nI_toInt (by omega); have t_n1 : (nI k).toInt = (k : Int) := nI_toInt (by omega); have t_n2 : (nI N).toInt = (N : Int) := nI_toInt (by omega); have t_n3 : (nI B).toInt = (B : Int) := nI_toInt (by omega); have t_n4 : (nI D).toInt = (D : Int) := nI_toInt (by omega); omega) (by decide)) dX9_coldBy_32 ?_
      refine lv_cg (y := f2 i) (by rw [nI_clamp (by omega)]) ?_
      refine lv_aload_n hx hb dX9_coldBy_33 rfl (lv_at hl 1 rfl) ?_
      refine va_get (D := (dC, dI)) (ci := 9) (v := .ref a6) (C := RX9) (T := TX9) (N := 9) hx hb hg inG9 hown hK.1 hP 0 rfl rfl 8 (by decide) (hg _ wt_84) (fun _ h9 => h9) rfl dX9_coldBy_34 ?_
      refine lv_iload_n hx hb dX9_coldBy_37 rfl (lv_at hl 3 rfl) ?_
      refine va_iald hx hb hK.1 hP 3 0 rfl rfl (vp_in_nI (by have t_c1 := eqI c1; have t_c4 := ltI c4; have : (2 : Int32).toInt = 2 := (by decide); have : (5 : Int32).toInt = 5 := (by decide); have t_n0 : (nI i).toInt = (i : Int) := nI_toInt (by omega); have t_n1 : (nI k).toInt = (k : Int) := nI_toInt (by omega); have t_n2 : (nI N).toInt = (N : Int) := nI_toInt (by omega); have t_n3 : (nI B).toInt = (B : Int) := nI_toInt (by omega); have t_n4 : (nI D).toInt = (D : Int) := nI_toInt (by omega); omega) (by decide)) dX9_coldBy_38 ?_
      refine lv_cg (y := f6 k) (by rw [nI_clamp (by omega)]) ?_
      refine lv_isub hx hb dX9_coldBy_39 ?_
      have hPc := hP.sub (ws' := []) [] rfl
      refine va_calli (va_runS (As := [.int 0, .int ((f2 i) - (f6 k))]) (rest := []) ⟨hx, hb, hml, hown, hg⟩ (c_J9_max l dC dI G _ 0 ((f2 i) - (f6 k)) ) (kwS hg mfJ9_max_7cf53 wt_585 ⟨Nat.le_of_ble_eq_true rfl, Nat.le_of_ble_eq_true rfl⟩) (preSR hK hPc) rfl rfl hl.1 rfl (lv_room (Nat.le_of_ble_eq_true rfl)) dX9_coldBy_40 ⟨Nat.le_of_ble_eq_true rfl, Nat.le_of_ble_eq_true rfl⟩) hS (fun q h1 h2 => absurd h2 (Nat.not_le.mpr h1)) (fun q h => hA q (Nat.le_trans hS.1 h)) (fun r5 ur5 t H1 locs ht hvm w6 hB hz1 hk1 hS => ?_)
      have hP := keepR hP hk1
      obtain ⟨w6, w6x⟩ := w6
      subst w6
      refine lv_iload_n hx hb dX9_coldBy_43 rfl (lv_at hl 0 rfl) ?_
      refine lv_iadd hx hb dX9_coldBy_44 ?_
      have hpost : ((mx 0 ((f2 i) - (f6 k))) + 0 : Int32) = cdF (f2 i) (f6 k) (f4 k) := by
        unfold cdF
        (repeat' split) <;> first | rfl | contradiction | (exfalso; simp_all; done) | simp_all
      refine W.widen (k := 0) (n := 0) (by omega) (by omega) ?_
      exact W.iret (v := (mx 0 ((f2 i) - (f6 k))) + 0) hx hb hr (fun t ht hW => ⟨⟨(mx 0 ((f2 i) - (f6 k))) + 0, (), rfl, ⟨hpost, trivial⟩, trivial⟩, hS.F ht⟩) hS.2.2 dX9_coldBy_45
    · skip
      refine lv_iconst (v := 1) hx hb dX9_coldBy_20 (by decide) ?_
      refine lv_goto (tgt := 25) hx hb dX9_coldBy_21 (by decide) ?_
      refine lv_istore_n (lv' := [(3, .int 1), (0, .ref h0), (1, .int (nI i)), (2, .int (nI k))]) hx hb dX9_coldBy_25 rfl hl (by decide) rfl (fun ls hl => ?_)
      refine lv_iconst (v := 0) hx hb dX9_coldBy_26 (by decide) ?_
      refine lv_aload_n hx hb dX9_coldBy_27 rfl (lv_at hl 1 rfl) ?_
      refine va_get (D := (dC, dI)) (ci := 9) (v := .ref a2) (C := RX9) (T := TX9) (N := 9) hx hb hg inG9 hown hK.1 hP 0 rfl rfl 4 (by decide) (hg _ wt_75) (fun _ h9 => h9) rfl dX9_coldBy_28 ?_
      refine lv_iload_n hx hb dX9_coldBy_31 rfl (lv_at hl 2 rfl) ?_
      refine va_iald hx hb hK.1 hP 1 0 rfl rfl (vp_in_nI (by have t_c1 := eqI c1; have t_c4 := nltI c4; have : (2 : Int32).toInt = 2 := (by decide); have : (5 : Int32).toInt = 5 := (by decide); have t_n0 : (nI i).toInt = (i : Int) := nI_toInt (by omega); have t_n1 : (nI k).toInt = (k : Int) := nI_toInt (by omega); have t_n2 : (nI N).toInt = (N : Int) := nI_toInt (by omega); have t_n3 : (nI B).toInt = (B : Int) := nI_toInt (by omega); have t_n4 : (nI D).toInt = (D : Int) := nI_toInt (by omega); omega) (by decide)) dX9_coldBy_32 ?_
      refine lv_cg (y := f2 i) (by rw [nI_clamp (by omega)]) ?_
      refine lv_aload_n hx hb dX9_coldBy_33 rfl (lv_at hl 1 rfl) ?_
      refine va_get (D := (dC, dI)) (ci := 9) (v := .ref a6) (C := RX9) (T := TX9) (N := 9) hx hb hg inG9 hown hK.1 hP 0 rfl rfl 8 (by decide) (hg _ wt_84) (fun _ h9 => h9) rfl dX9_coldBy_34 ?_
      refine lv_iload_n hx hb dX9_coldBy_37 rfl (lv_at hl 3 rfl) ?_
      refine va_iald hx hb hK.1 hP 3 0 rfl rfl (vp_in_nI (by have t_c1 := eqI c1; have t_c4 := nltI c4; have : (2 : Int32).toInt = 2 := (by decide); have : (5 : Int32).toInt = 5 := (by decide); have t_n0 : (nI i).toInt = (i : Int) := nI_toInt (by omega); have t_n1 : (nI k).toInt = (k : Int) := nI_toInt (by omega); have t_n2 : (nI N).toInt = (N : Int) := nI_toInt (by omega); have t_n3 : (nI B).toInt = (B : Int) := nI_toInt (by omega); have t_n4 : (nI D).toInt = (D : Int) := nI_toInt (by omega); omega) (by decide)) dX9_coldBy_38 ?_
      refine lv_cg (y := f6 k) (by rw [nI_clamp (by omega)]) ?_
      refine lv_isub hx hb dX9_coldBy_39 ?_
      have hPc := hP.sub (ws' := []) [] rfl
      refine va_calli (va_runS (As := [.int 0, .int ((f2 i) - (f6 k))]) (rest := []) ⟨hx, hb, hml, hown, hg⟩ (c_J9_max l dC dI G _ 0 ((f2 i) - (f6 k)) ) (kwS hg mfJ9_max_7cf53 wt_585 ⟨Nat.le_of_ble_eq_true rfl, Nat.le_of_ble_eq_true rfl⟩) (preSR hK hPc) rfl rfl hl.1 rfl (lv_room (Nat.le_of_ble_eq_true rfl)) dX9_coldBy_40 ⟨Nat.le_of_ble_eq_true rfl, Nat.le_of_ble_eq_true rfl⟩) hS (fun q h1 h2 => absurd h2 (Nat.not_le.mpr h1)) (fun q h => hA q (Nat.le_trans hS.1 h)) (fun r7 ur7 t H1 locs ht hvm w8 hB hz1 hk1 hS => ?_)
      have hP := keepR hP hk1
      obtain ⟨w8, w8x⟩ := w8
      subst w8
      refine lv_iload_n hx hb dX9_coldBy_43 rfl (lv_at hl 0 rfl) ?_
      refine lv_iadd hx hb dX9_coldBy_44 ?_
      have hpost : ((mx 0 ((f2 i) - (f6 k))) + 1 : Int32) = cdF (f2 i) (f6 k) (f4 k) := by
        unfold cdF
        (repeat' split) <;> first | rfl | contradiction | (exfalso; simp_all; done) | simp_all
      refine W.widen (k := 0) (n := 0) (by omega) (by omega) ?_
      exact W.iret (v := (mx 0 ((f2 i) - (f6 k))) + 1) hx hb hr (fun t ht hW => ⟨⟨(mx 0 ((f2 i) - (f6 k))) + 1, (), rfl, ⟨hpost, trivial⟩, trivial⟩, hS.F ht⟩) hS.2.2 dX9_coldBy_45

set_option maxHeartbeats 1000000 in
set_option maxRecDepth 100000 in
theorem c_X9_joltBy (l : Launch) (dC : Nat → ClassId) (dI : Nat → Nat → Nat) (G : Nat → ClassId) (sz : Nat) (h0 a1 a2 a3 a4 a5 a6 N B D k : Nat) (g : Int32) (f4 f5 : Nat → Int32) (hN_N : N ≤ 10) (hB_B : B ≤ 6) (hD_D : 1 ≤ D ∧ D ≤ 9) (hg0 : g.toInt = -4 ∨ (0 ≤ g.toInt ∧ g.toInt < 6)) (hk : k < 6) : Met l yX9_joltBy (Cond.code yX9_joltBy cX9_joltBy 4 (some .int) :: GT) ({ frames := 1, cells := 0, slots := 0, locals := 20 } : Room) (PcR [.ref h0, .int g, .int (nI k)] dC dI G [(h0, .inr (9, [.int (nI N), .int (nI B), .int (nI D), .ref a1, .ref a2, .ref a3, .ref a4, .ref a5, .ref a6])), (a4, .inl (G 0, 6, .inl f4)), (a5, .inl (G 0, 6, .inl f5))] sz) (va_Qi (fun (r : Int32) (u : Unit) => match u with | _ => (r = jlF g k f4 f5) ∧ True) (fun _ _ => True) (fun q : Nat => sz ≤ q)) 0 0 (fun q : Nat => sz ≤ q) := by
  refine Met.ofW (cc := cX9_joltBy) (maxL := 4) (ret := (some .int)) (by decide) rfl ?_
  intro p e s m args below meth c s₁ Bd hml hv
  obtain ⟨rfl, hsz, hP, hK⟩ := hv
  have hx := Bd.exec
  have hb := Bd.bytes
  have hr := Bd.returns
  have hg : ∀ w ∈ GT, w.before ([.ref h0, .int g, .int (nI k)] : List Value).toArray s = true := fun w h => atoms_spec (ws := Cond.code yX9_joltBy cX9_joltBy 4 (some .int) :: GT) Bd.pre w (List.mem_cons_of_mem _ h)
  have hown : s.vm.findClass RX9 = some m.cls := findClass_of_methodNamed Bd.named
  have hlocks := Bd.notSynchronized
  subst hsz
  have hA : ∀ q : Nat, s.heap.size ≤ q → (fun q : Nat => s.heap.size ≤ q) q := fun _ h => h
  have hS : va_S (fun q : Nat => s.heap.size ≤ q) s.heap s.heap [] := va_S.rf
  have hl := lv_entry ([.ref h0, .int g, .int (nI k)]) (n := 4) (Nat.le_of_ble_eq_true rfl)
  rw [lg_entry_eq]
  generalize (lg_sl ([.ref h0, .int g, .int (nI k)]) ++ List.replicate (4 - (lg_sl ([.ref h0, .int g, .int (nI k)])).length) Slot.unset).toArray = ls at hl ⊢
  have hl : lv_has ls 4 [(0, .ref h0), (1, .int g), (2, .int (nI k))] := hl
  refine lv_iload_n hx hb dX9_joltBy_0 rfl (lv_at hl 1 rfl) ?_
  refine lv_bipush (v := (-4)) hx hb dX9_joltBy_1 (by decide) ?_
  refine lv_icmp_eq (tgt := 31) hx hb dX9_joltBy_3 (by decide) (fun c1 => ?_) (fun c1 => ?_)
  · skip
    refine lv_iconst (v := 0) hx hb dX9_joltBy_31 (by decide) ?_
    have hpost : (0 : Int32) = jlF g k f4 f5 := by
      unfold jlF
      (repeat' split) <;> first | rfl | contradiction | (exfalso; simp_all; done) | simp_all
    refine W.widen (k := 0) (n := 0) (by omega) (by omega) ?_
    exact W.iret (v := 0) hx hb hr (fun t ht hW => ⟨⟨0, (), rfl, ⟨hpost, trivial⟩, trivial⟩, hS.F ht⟩) hS.2.2 dX9_joltBy_32
  · skip
    obtain ⟨gg, hgg, rfl⟩ : ∃ j : Nat, j < 6 ∧ g = nI j := by
      have t_c1 := neI c1
      have : ((-4) : Int32).toInt = -4 := (by decide)
      have t_n0 : (nI k).toInt = (k : Int) := nI_toInt (by omega)
      have t_n1 : (nI N).toInt = (N : Int) := nI_toInt (by omega)
      have t_n2 : (nI B).toInt = (B : Int) := nI_toInt (by omega)
      have t_n3 : (nI D).toInt = (D : Int) := nI_toInt (by omega)
      exact i32_nat (by omega) (by omega)
    refine lv_iload_n hx hb dX9_joltBy_6 rfl (lv_at hl 1 rfl) ?_
    refine lv_iload_n hx hb dX9_joltBy_7 rfl (lv_at hl 2 rfl) ?_
    refine lv_icmp_eq (tgt := 31) hx hb dX9_joltBy_8 (by decide) (fun c2 => ?_) (fun c2 => ?_)
    · skip
      have n3 : gg = k := by have t := eqI c2; rw [nI_toInt (n := gg) (by omega)] at t; rw [nI_toInt (n := k) (by omega)] at t; omega
      refine lv_iconst (v := 0) hx hb dX9_joltBy_31 (by decide) ?_
      have hpost : (0 : Int32) = jlF (nI gg) k f4 f5 := by
        unfold jlF
        rw [nI_clamp (by omega)]
        (repeat' split) <;> first | rfl | contradiction | (exfalso; simp_all; done) | simp_all
      refine W.widen (k := 0) (n := 0) (by omega) (by omega) ?_
      exact W.iret (v := 0) hx hb hr (fun t ht hW => ⟨⟨0, (), rfl, ⟨hpost, trivial⟩, trivial⟩, hS.F ht⟩) hS.2.2 dX9_joltBy_32
    · skip
      have n4 : gg ≠ k := by have t := neI c2; rw [nI_toInt (n := gg) (by omega)] at t; rw [nI_toInt (n := k) (by omega)] at t; omega
      refine lv_aload_n hx hb dX9_joltBy_11 rfl (lv_at hl 0 rfl) ?_
      refine va_get (D := (dC, dI)) (ci := 9) (v := .ref a4) (C := RX9) (T := TX9) (N := 9) hx hb hg inG9 hown hK.1 hP 0 rfl rfl 6 (by decide) (hg _ wt_80) (fun _ h9 => h9) rfl dX9_joltBy_12 ?_
      refine lv_iload_n hx hb dX9_joltBy_15 rfl (lv_at hl 1 rfl) ?_
      refine va_iald hx hb hK.1 hP 1 0 rfl rfl (vp_in_nI (by have t_c1 := neI c1; have t_hgg := hgg; have t_n4 := n4; have : ((-4) : Int32).toInt = -4 := (by decide); have t_n0 : (nI k).toInt = (k : Int) := nI_toInt (by omega); have t_n1 : (nI N).toInt = (N : Int) := nI_toInt (by omega); have t_n2 : (nI B).toInt = (B : Int) := nI_toInt (by omega); have t_n3 : (nI D).toInt = (D : Int) := nI_toInt (by omega); have t_n4 : (nI gg).toInt = (gg : Int) := nI_toInt (by omega); omega) (by decide)) dX9_joltBy_16 ?_
      refine lv_cg (y := f4 gg) (by rw [nI_clamp (by omega)]) ?_
      refine lv_iconst (v := 4) hx hb dX9_joltBy_17 (by decide) ?_
      refine lv_icmp_ne (tgt := 33) hx hb dX9_joltBy_18 (by decide) (fun c5 => ?_) (fun c5 => ?_)
      · skip
        refine lv_aload_n hx hb dX9_joltBy_33 rfl (lv_at hl 0 rfl) ?_
        refine va_get (D := (dC, dI)) (ci := 9) (v := .ref a5) (C := RX9) (T := TX9) (N := 9) hx hb hg inG9 hown hK.1 hP 0 rfl rfl 7 (by decide) (hg _ wt_82) (fun _ h9 => h9) rfl dX9_joltBy_34 ?_
        refine lv_iload_n hx hb dX9_joltBy_37 rfl (lv_at hl 1 rfl) ?_
        refine va_iald hx hb hK.1 hP 2 0 rfl rfl (vp_in_nI (by have t_c1 := neI c1; have t_hgg := hgg; have t_n4 := n4; have t_c5 := neI c5; have : ((-4) : Int32).toInt = -4 := (by decide); have : (4 : Int32).toInt = 4 := (by decide); have t_n0 : (nI k).toInt = (k : Int) := nI_toInt (by omega); have t_n1 : (nI N).toInt = (N : Int) := nI_toInt (by omega); have t_n2 : (nI B).toInt = (B : Int) := nI_toInt (by omega); have t_n3 : (nI D).toInt = (D : Int) := nI_toInt (by omega); have t_n4 : (nI gg).toInt = (gg : Int) := nI_toInt (by omega); omega) (by decide)) dX9_joltBy_38 ?_
        refine lv_cg (y := f5 gg) (by rw [nI_clamp (by omega)]) ?_
        refine lv_aload_n hx hb dX9_joltBy_39 rfl (lv_at hl 0 rfl) ?_
        refine va_get (D := (dC, dI)) (ci := 9) (v := .ref a5) (C := RX9) (T := TX9) (N := 9) hx hb hg inG9 hown hK.1 hP 0 rfl rfl 7 (by decide) (hg _ wt_82) (fun _ h9 => h9) rfl dX9_joltBy_40 ?_
        refine lv_iload_n hx hb dX9_joltBy_43 rfl (lv_at hl 2 rfl) ?_
        refine va_iald hx hb hK.1 hP 2 0 rfl rfl (vp_in_nI (by have t_c1 := neI c1; have t_hgg := hgg; have t_n4 := n4; have t_c5 := neI c5; have : ((-4) : Int32).toInt = -4 := (by decide); have : (4 : Int32).toInt = 4 := (by decide); have t_n0 : (nI k).toInt = (k : Int) := nI_toInt (by omega); have t_n1 : (nI N).toInt = (N : Int) := nI_toInt (by omega); have t_n2 : (nI B).toInt = (B : Int) := nI_toInt (by omega); have t_n3 : (nI D).toInt = (D : Int) := nI_toInt (by omega); have t_n4 : (nI gg).toInt = (gg : Int) := nI_toInt (by omega); omega) (by decide)) dX9_joltBy_44 ?_
        refine lv_cg (y := f5 k) (by rw [nI_clamp (by omega)]) ?_
        refine lv_isub hx hb dX9_joltBy_45 ?_
        have hPc := hP.sub (ws' := []) [] rfl
        refine va_calli (va_runS (As := [.int ((f5 gg) - (f5 k))]) (rest := []) ⟨hx, hb, hml, hown, hg⟩ (c_J9_abs l dC dI G _ ((f5 gg) - (f5 k)) ) (kwS hg mfJ9_abs_0f7a4 wt_594 ⟨Nat.le_of_ble_eq_true rfl, Nat.le_of_ble_eq_true rfl⟩) (preSR hK hPc) rfl rfl hl.1 rfl (lv_room (Nat.le_of_ble_eq_true rfl)) dX9_joltBy_46 ⟨Nat.le_of_ble_eq_true rfl, Nat.le_of_ble_eq_true rfl⟩) hS (fun q h1 h2 => absurd h2 (Nat.not_le.mpr h1)) (fun q h => hA q (Nat.le_trans hS.1 h)) (fun r6 ur6 t H1 locs ht hvm w7 hB hz1 hk1 hS => ?_)
        have hP := keepR hP hk1
        obtain ⟨w7, w7x⟩ := w7
        subst w7
        refine lv_istore_n (lv' := [(3, .int (ab ((f5 gg) - (f5 k)))), (0, .ref h0), (1, .int (nI gg)), (2, .int (nI k))]) hx hb dX9_joltBy_49 rfl hl (by decide) rfl (fun ls hl => ?_)
        refine lv_aload_n hx hb dX9_joltBy_50 rfl (lv_at hl 1 rfl) ?_
        refine va_get (D := (dC, dI)) (ci := 9) (v := .ref a4) (C := RX9) (T := TX9) (N := 9) hx hb hg inG9 hown hK.1 hP 0 rfl rfl 6 (by decide) (hg _ wt_80) (fun _ h9 => h9) rfl dX9_joltBy_51 ?_
        refine lv_iload_n hx hb dX9_joltBy_54 rfl (lv_at hl 3 rfl) ?_
        refine va_iald hx hb hK.1 hP 1 0 rfl rfl (vp_in_nI (by have t_c1 := neI c1; have t_hgg := hgg; have t_n4 := n4; have t_c5 := neI c5; have : ((-4) : Int32).toInt = -4 := (by decide); have : (4 : Int32).toInt = 4 := (by decide); have t_n0 : (nI k).toInt = (k : Int) := nI_toInt (by omega); have t_n1 : (nI N).toInt = (N : Int) := nI_toInt (by omega); have t_n2 : (nI B).toInt = (B : Int) := nI_toInt (by omega); have t_n3 : (nI D).toInt = (D : Int) := nI_toInt (by omega); have t_n4 : (nI gg).toInt = (gg : Int) := nI_toInt (by omega); omega) (by decide)) dX9_joltBy_55 ?_
        refine lv_cg (y := f4 k) (by rw [nI_clamp (by omega)]) ?_
        refine lv_iconst (v := 5) hx hb dX9_joltBy_56 (by decide) ?_
        refine lv_icmp_ne (tgt := 66) hx hb dX9_joltBy_57 (by decide) (fun c8 => ?_) (fun c8 => ?_)
        · skip
          refine lv_iload_n hx hb dX9_joltBy_66 rfl (lv_at hl 0 rfl) ?_
          have hpost : (ab ((f5 gg) - (f5 k)) : Int32) = jlF (nI gg) k f4 f5 := by
            unfold jlF
            rw [nI_clamp (by omega)]
            (repeat' split) <;> first | rfl | contradiction | (exfalso; simp_all; done) | simp_all
          refine W.widen (k := 0) (n := 0) (by omega) (by omega) ?_
          exact W.iret (v := ab ((f5 gg) - (f5 k))) hx hb hr (fun t ht hW => ⟨⟨ab ((f5 gg) - (f5 k)), (), rfl, ⟨hpost, trivial⟩, trivial⟩, hS.F ht⟩) hS.2.2 dX9_joltBy_67
        · skip
          refine lv_iload_n hx hb dX9_joltBy_60 rfl (lv_at hl 0 rfl) ?_
          refine lv_iconst (v := 2) hx hb dX9_joltBy_61 (by decide) ?_
          refine lv_idiv hx hb dX9_joltBy_62 (by decide) ?_
          refine lv_goto (tgt := 67) hx hb dX9_joltBy_63 (by decide) ?_
          have hpost : ((ab ((f5 gg) - (f5 k))) / 2 : Int32) = jlF (nI gg) k f4 f5 := by
            unfold jlF
            rw [nI_clamp (by omega)]
            (repeat' split) <;> first | rfl | contradiction | (exfalso; simp_all; done) | simp_all
          refine W.widen (k := 0) (n := 0) (by omega) (by omega) ?_
          exact W.iret (v := (ab ((f5 gg) - (f5 k))) / 2) hx hb hr (fun t ht hW => ⟨⟨(ab ((f5 gg) - (f5 k))) / 2, (), rfl, ⟨hpost, trivial⟩, trivial⟩, hS.F ht⟩) hS.2.2 dX9_joltBy_67
      · skip
        refine lv_aload_n hx hb dX9_joltBy_21 rfl (lv_at hl 0 rfl) ?_
        refine va_get (D := (dC, dI)) (ci := 9) (v := .ref a4) (C := RX9) (T := TX9) (N := 9) hx hb hg inG9 hown hK.1 hP 0 rfl rfl 6 (by decide) (hg _ wt_80) (fun _ h9 => h9) rfl dX9_joltBy_22 ?_
        refine lv_iload_n hx hb dX9_joltBy_25 rfl (lv_at hl 2 rfl) ?_
        refine va_iald hx hb hK.1 hP 1 0 rfl rfl (vp_in_nI (by have t_c1 := neI c1; have t_hgg := hgg; have t_n4 := n4; have t_c5 := eqI c5; have : ((-4) : Int32).toInt = -4 := (by decide); have : (4 : Int32).toInt = 4 := (by decide); have t_n0 : (nI k).toInt = (k : Int) := nI_toInt (by omega); have t_n1 : (nI N).toInt = (N : Int) := nI_toInt (by omega); have t_n2 : (nI B).toInt = (B : Int) := nI_toInt (by omega); have t_n3 : (nI D).toInt = (D : Int) := nI_toInt (by omega); have t_n4 : (nI gg).toInt = (gg : Int) := nI_toInt (by omega); omega) (by decide)) dX9_joltBy_26 ?_
        refine lv_cg (y := f4 k) (by rw [nI_clamp (by omega)]) ?_
        refine lv_iconst (v := 4) hx hb dX9_joltBy_27 (by decide) ?_
        refine lv_icmp_ne (tgt := 33) hx hb dX9_joltBy_28 (by decide) (fun c9 => ?_) (fun c9 => ?_)
        · skip
          refine lv_aload_n hx hb dX9_joltBy_33 rfl (lv_at hl 0 rfl) ?_
          refine va_get (D := (dC, dI)) (ci := 9) (v := .ref a5) (C := RX9) (T := TX9) (N := 9) hx hb hg inG9 hown hK.1 hP 0 rfl rfl 7 (by decide) (hg _ wt_82) (fun _ h9 => h9) rfl dX9_joltBy_34 ?_
          refine lv_iload_n hx hb dX9_joltBy_37 rfl (lv_at hl 1 rfl) ?_
          refine va_iald hx hb hK.1 hP 2 0 rfl rfl (vp_in_nI (by have t_c1 := neI c1; have t_hgg := hgg; have t_n4 := n4; have t_c5 := eqI c5; have t_c9 := neI c9; have : ((-4) : Int32).toInt = -4 := (by decide); have : (4 : Int32).toInt = 4 := (by decide); have t_n0 : (nI k).toInt = (k : Int) := nI_toInt (by omega); have t_n1 : (nI N).toInt = (N : Int) := nI_toInt (by omega); have t_n2 : (nI B).toInt = (B : Int) := nI_toInt (by omega); have t_n3 : (nI D).toInt = (D : Int) := nI_toInt (by omega); have t_n4 : (nI gg).toInt = (gg : Int) := nI_toInt (by omega); omega) (by decide)) dX9_joltBy_38 ?_
          refine lv_cg (y := f5 gg) (by rw [nI_clamp (by omega)]) ?_
          refine lv_aload_n hx hb dX9_joltBy_39 rfl (lv_at hl 0 rfl) ?_
          refine va_get (D := (dC, dI)) (ci := 9) (v := .ref a5) (C := RX9) (T := TX9) (N := 9) hx hb hg inG9 hown hK.1 hP 0 rfl rfl 7 (by decide) (hg _ wt_82) (fun _ h9 => h9) rfl dX9_joltBy_40 ?_
          refine lv_iload_n hx hb dX9_joltBy_43 rfl (lv_at hl 2 rfl) ?_
          refine va_iald hx hb hK.1 hP 2 0 rfl rfl (vp_in_nI (by have t_c1 := neI c1; have t_hgg := hgg; have t_n4 := n4; have t_c5 := eqI c5; have t_c9 := neI c9; have : ((-4) : Int32).toInt = -4 := (by decide); have : (4 : Int32).toInt = 4 := (by decide); have t_n0 : (nI k).toInt = (k : Int) := nI_toInt (by omega); have t_n1 : (nI N).toInt = (N : Int) := nI_toInt (by omega); have t_n2 : (nI B).toInt = (B : Int) := nI_toInt (by omega); have t_n3 : (nI D).toInt = (D : Int) := nI_toInt (by omega); have t_n4 : (nI gg).toInt = (gg : Int) := nI_toInt (by omega); omega) (by decide)) dX9_joltBy_44 ?_
          refine lv_cg (y := f5 k) (by rw [nI_clamp (by omega)]) ?_
          refine lv_isub hx hb dX9_joltBy_45 ?_
          have hPc := hP.sub (ws' := []) [] rfl
          refine va_calli (va_runS (As := [.int ((f5 gg) - (f5 k))]) (rest := []) ⟨hx, hb, hml, hown, hg⟩ (c_J9_abs l dC dI G _ ((f5 gg) - (f5 k)) ) (kwS hg mfJ9_abs_0f7a4 wt_594 ⟨Nat.le_of_ble_eq_true rfl, Nat.le_of_ble_eq_true rfl⟩) (preSR hK hPc) rfl rfl hl.1 rfl (lv_room (Nat.le_of_ble_eq_true rfl)) dX9_joltBy_46 ⟨Nat.le_of_ble_eq_true rfl, Nat.le_of_ble_eq_true rfl⟩) hS (fun q h1 h2 => absurd h2 (Nat.not_le.mpr h1)) (fun q h => hA q (Nat.le_trans hS.1 h)) (fun r10 ur10 t H1 locs ht hvm w11 hB hz1 hk1 hS => ?_)
          have hP := keepR hP hk1
          obtain ⟨w11, w11x⟩ := w11
          subst w11
          refine lv_istore_n (lv' := [(3, .int (ab ((f5 gg) - (f5 k)))), (0, .ref h0), (1, .int (nI gg)), (2, .int (nI k))]) hx hb dX9_joltBy_49 rfl hl (by decide) rfl (fun ls hl => ?_)
          refine lv_aload_n hx hb dX9_joltBy_50 rfl (lv_at hl 1 rfl) ?_
          refine va_get (D := (dC, dI)) (ci := 9) (v := .ref a4) (C := RX9) (T := TX9) (N := 9) hx hb hg inG9 hown hK.1 hP 0 rfl rfl 6 (by decide) (hg _ wt_80) (fun _ h9 => h9) rfl dX9_joltBy_51 ?_
          refine lv_iload_n hx hb dX9_joltBy_54 rfl (lv_at hl 3 rfl) ?_
          refine va_iald hx hb hK.1 hP 1 0 rfl rfl (vp_in_nI (by have t_c1 := neI c1; have t_hgg := hgg; have t_n4 := n4; have t_c5 := eqI c5; have t_c9 := neI c9; have : ((-4) : Int32).toInt = -4 := (by decide); have : (4 : Int32).toInt = 4 := (by decide); have t_n0 : (nI k).toInt = (k : Int) := nI_toInt (by omega); have t_n1 : (nI N).toInt = (N : Int) := nI_toInt (by omega); have t_n2 : (nI B).toInt = (B : Int) := nI_toInt (by omega); have t_n3 : (nI D).toInt = (D : Int) := nI_toInt (by omega); have t_n4 : (nI gg).toInt = (gg : Int) := nI_toInt (by omega); omega) (by decide)) dX9_joltBy_55 ?_
          refine lv_cg (y := f4 k) (by rw [nI_clamp (by omega)]) ?_
          refine lv_iconst (v := 5) hx hb dX9_joltBy_56 (by decide) ?_
          refine lv_icmp_ne (tgt := 66) hx hb dX9_joltBy_57 (by decide) (fun c12 => ?_) (fun c12 => ?_)
          · skip
            refine lv_iload_n hx hb dX9_joltBy_66 rfl (lv_at hl 0 rfl) ?_
            have hpost : (ab ((f5 gg) - (f5 k)) : Int32) = jlF (nI gg) k f4 f5 := by
              unfold jlF
              rw [nI_clamp (by omega)]
              (repeat' split) <;> first | rfl | contradiction | (exfalso; simp_all; done) | simp_all
            refine W.widen (k := 0) (n := 0) (by omega) (by omega) ?_
            exact W.iret (v := ab ((f5 gg) - (f5 k))) hx hb hr (fun t ht hW => ⟨⟨ab ((f5 gg) - (f5 k)), (), rfl, ⟨hpost, trivial⟩, trivial⟩, hS.F ht⟩) hS.2.2 dX9_joltBy_67
          · skip
            refine lv_iload_n hx hb dX9_joltBy_60 rfl (lv_at hl 0 rfl) ?_
            refine lv_iconst (v := 2) hx hb dX9_joltBy_61 (by decide) ?_
            refine lv_idiv hx hb dX9_joltBy_62 (by decide) ?_
            refine lv_goto (tgt := 67) hx hb dX9_joltBy_63 (by decide) ?_
            have hpost : ((ab ((f5 gg) - (f5 k))) / 2 : Int32) = jlF (nI gg) k f4 f5 := by
              unfold jlF
              rw [nI_clamp (by omega)]
              (repeat' split) <;> first | rfl | contradiction | (exfalso; simp_all; done) | simp_all
            refine W.widen (k := 0) (n := 0) (by omega) (by omega) ?_
            exact W.iret (v := (ab ((f5 gg) - (f5 k))) / 2) hx hb hr (fun t ht hW => ⟨⟨(ab ((f5 gg) - (f5 k))) / 2, (), rfl, ⟨hpost, trivial⟩, trivial⟩, hS.F ht⟩) hS.2.2 dX9_joltBy_67
        · skip
          refine lv_iconst (v := 0) hx hb dX9_joltBy_31 (by decide) ?_
          have hpost : (0 : Int32) = jlF (nI gg) k f4 f5 := by
            unfold jlF
            rw [nI_clamp (by omega)]
            (repeat' split) <;> first | rfl | contradiction | (exfalso; simp_all; done) | simp_all
          refine W.widen (k := 0) (n := 0) (by omega) (by omega) ?_
          exact W.iret (v := 0) hx hb hr (fun t ht hW => ⟨⟨0, (), rfl, ⟨hpost, trivial⟩, trivial⟩, hS.F ht⟩) hS.2.2 dX9_joltBy_32

set_option maxHeartbeats 1000000 in
set_option maxRecDepth 100000 in
theorem c_X9_harmBy (l : Launch) (dC : Nat → ClassId) (dI : Nat → Nat → Nat) (G : Nat → ClassId) (sz : Nat) (h0 a1 a2 a3 a4 a5 a6 N B D : Nat) (i g k : Int32) (f1 f2 f4 f5 f6 : Nat → Int32) (hN_N : N ≤ 10) (hB_B : B ≤ 6) (hD_D : 1 ≤ D ∧ D ≤ 9) : Met l yX9_harmBy (Cond.code yX9_harmBy cX9_harmBy 4 (some .int) :: GT) ({ frames := 2, cells := 0, slots := 0, locals := 44 } : Room) (PcR [.ref h0, .int i, .int g, .int k] dC dI G [(h0, .inr (9, [.int (nI N), .int (nI B), .int (nI D), .ref a1, .ref a2, .ref a3, .ref a4, .ref a5, .ref a6])), (a1, .inl (G 0, 10, .inl f1)), (a2, .inl (G 0, 10, .inl f2)), (a4, .inl (G 0, 6, .inl f4)), (a5, .inl (G 0, 6, .inl f5)), (a6, .inl (G 0, 6, .inl f6))] sz) (va_Qi (fun (r : Int32) (u : Unit) => match u with | _ => (r = hmF N B f1 f2 f4 f5 f6 i g k) ∧ True) (fun _ _ => True) (fun q : Nat => sz ≤ q)) 0 0 (fun q : Nat => sz ≤ q) := by
  refine Met.ofW (cc := cX9_harmBy) (maxL := 4) (ret := (some .int)) (by decide) rfl ?_
  intro p e s m args below meth c s₁ Bd hml hv
  obtain ⟨rfl, hsz, hP, hK⟩ := hv
  have hx := Bd.exec
  have hb := Bd.bytes
  have hr := Bd.returns
  have hg : ∀ w ∈ GT, w.before ([.ref h0, .int i, .int g, .int k] : List Value).toArray s = true := fun w h => atoms_spec (ws := Cond.code yX9_harmBy cX9_harmBy 4 (some .int) :: GT) Bd.pre w (List.mem_cons_of_mem _ h)
  have hown : s.vm.findClass RX9 = some m.cls := findClass_of_methodNamed Bd.named
  have hlocks := Bd.notSynchronized
  subst hsz
  have hA : ∀ q : Nat, s.heap.size ≤ q → (fun q : Nat => s.heap.size ≤ q) q := fun _ h => h
  have hS : va_S (fun q : Nat => s.heap.size ≤ q) s.heap s.heap [] := va_S.rf
  have hl := lv_entry ([.ref h0, .int i, .int g, .int k]) (n := 4) (Nat.le_of_ble_eq_true rfl)
  rw [lg_entry_eq]
  generalize (lg_sl ([.ref h0, .int i, .int g, .int k]) ++ List.replicate (4 - (lg_sl ([.ref h0, .int i, .int g, .int k])).length) Slot.unset).toArray = ls at hl ⊢
  have hl : lv_has ls 4 [(0, .ref h0), (1, .int i), (2, .int g), (3, .int k)] := hl
  refine lv_aload_n hx hb dX9_harmBy_0 rfl (lv_at hl 0 rfl) ?_
  refine lv_iload_n hx hb dX9_harmBy_1 rfl (lv_at hl 1 rfl) ?_
  refine lv_iload_n hx hb dX9_harmBy_2 rfl (lv_at hl 2 rfl) ?_
  refine lv_iload_n hx hb dX9_harmBy_3 rfl (lv_at hl 3 rfl) ?_
  have hPc := hP.sub (ws' := [(h0, .inr (9, [.int (nI N), .int (nI B), .int (nI D), .ref a1, .ref a2, .ref a3, .ref a4, .ref a5, .ref a6]))]) [0] rfl
  refine va_calli (va_runV (As := [.int i, .int g, .int k]) (rest := []) ⟨hx, hb, hml, hown, hg⟩ (c_X9_canHand l dC dI G _ h0 a1 a2 a3 a4 a5 a6 N B D i g k (by have t_n0 : (nI N).toInt = (N : Int) := nI_toInt (by omega); have t_n1 : (nI B).toInt = (B : Int) := nI_toInt (by omega); have t_n2 : (nI D).toInt = (D : Int) := nI_toInt (by omega); omega) (by have t_n0 : (nI N).toInt = (N : Int) := nI_toInt (by omega); have t_n1 : (nI B).toInt = (B : Int) := nI_toInt (by omega); have t_n2 : (nI D).toInt = (D : Int) := nI_toInt (by omega); omega) (by have t_n0 : (nI N).toInt = (N : Int) := nI_toInt (by omega); have t_n1 : (nI B).toInt = (B : Int) := nI_toInt (by omega); have t_n2 : (nI D).toInt = (D : Int) := nI_toInt (by omega); omega)) (kwV hg mfX9_canHand wt_580 ⟨Nat.le_of_ble_eq_true rfl, Nat.le_of_ble_eq_true rfl⟩) (preVR hK hPc (ci := 9) rfl rfl) rfl rfl hl.1 rfl (lv_room (Nat.le_of_ble_eq_true rfl)) dX9_harmBy_4 ⟨Nat.le_of_ble_eq_true rfl, Nat.le_of_ble_eq_true rfl⟩) hS (fun q h1 h2 => absurd h2 (Nat.not_le.mpr h1)) (fun q h => hA q (Nat.le_trans hS.1 h)) (fun r1 ur1 t H1 locs ht hvm w2 hB hz1 hk1 hS => ?_)
  have hP := keepR hP hk1
  obtain ⟨w2, w2x⟩ := w2
  try simp only [l_ii] at w2
  subst w2
  refine lv_if_ne (tgt := 12) hx hb dX9_harmBy_7 (by decide) (fun c3 => ?_) (fun c3 => ?_)
  · skip
    have b4 := if10_p c3
    obtain ⟨ii, hii, rfl⟩ : ∃ j : Nat, j < 10 ∧ i = nI j := by
      have t_b4 := b4
      have t_n0 : (nI N).toInt = (N : Int) := nI_toInt (by omega)
      have t_n1 : (nI B).toInt = (B : Int) := nI_toInt (by omega)
      have t_n2 : (nI D).toInt = (D : Int) := nI_toInt (by omega)
      exact i32_nat (by omega) (by omega)
    obtain ⟨kk, hkk, rfl⟩ : ∃ j : Nat, j < 6 ∧ k = nI j := by
      have t_b4 := b4
      have t_hii := hii
      have t_n0 : (nI N).toInt = (N : Int) := nI_toInt (by omega)
      have t_n1 : (nI B).toInt = (B : Int) := nI_toInt (by omega)
      have t_n2 : (nI D).toInt = (D : Int) := nI_toInt (by omega)
      have t_n3 : (nI ii).toInt = (ii : Int) := nI_toInt (by omega)
      exact i32_nat (by omega) (by omega)
    refine lv_bipush (v := 20) hx hb dX9_harmBy_12 (by decide) ?_
    refine lv_aload_n hx hb dX9_harmBy_14 rfl (lv_at hl 0 rfl) ?_
    refine lv_iload_n hx hb dX9_harmBy_15 rfl (lv_at hl 1 rfl) ?_
    refine lv_iload_n hx hb dX9_harmBy_16 rfl (lv_at hl 3 rfl) ?_
    have hPc := hP.sub (ws' := [(h0, .inr (9, [.int (nI N), .int (nI B), .int (nI D), .ref a1, .ref a2, .ref a3, .ref a4, .ref a5, .ref a6])), (a1, .inl (G 0, 10, .inl f1)), (a4, .inl (G 0, 6, .inl f4))]) [0, 1, 3] rfl
    refine va_calli (va_runV (As := [.int (nI ii), .int (nI kk)]) (rest := [.int 20]) ⟨hx, hb, hml, hown, hg⟩ (c_X9_noiseBy l dC dI G _ h0 a1 a2 a3 a4 a5 a6 N B D ii kk f1 f4 (by have t_b4 := b4; have t_hii := hii; have t_hkk := hkk; have t_n0 : (nI N).toInt = (N : Int) := nI_toInt (by omega); have t_n1 : (nI B).toInt = (B : Int) := nI_toInt (by omega); have t_n2 : (nI D).toInt = (D : Int) := nI_toInt (by omega); have t_n3 : (nI ii).toInt = (ii : Int) := nI_toInt (by omega); have t_n4 : (nI kk).toInt = (kk : Int) := nI_toInt (by omega); omega) (by have t_b4 := b4; have t_hii := hii; have t_hkk := hkk; have t_n0 : (nI N).toInt = (N : Int) := nI_toInt (by omega); have t_n1 : (nI B).toInt = (B : Int) := nI_toInt (by omega); have t_n2 : (nI D).toInt = (D : Int) := nI_toInt (by omega); have t_n3 : (nI ii).toInt = (ii : Int) := nI_toInt (by omega); have t_n4 : (nI kk).toInt = (kk : Int) := nI_toInt (by omega); omega) (by have t_b4 := b4; have t_hii := hii; have t_hkk := hkk; have t_n0 : (nI N).toInt = (N : Int) := nI_toInt (by omega); have t_n1 : (nI B).toInt = (B : Int) := nI_toInt (by omega); have t_n2 : (nI D).toInt = (D : Int) := nI_toInt (by omega); have t_n3 : (nI ii).toInt = (ii : Int) := nI_toInt (by omega); have t_n4 : (nI kk).toInt = (kk : Int) := nI_toInt (by omega); omega) (by have t_b4 := b4; have t_hii := hii; have t_hkk := hkk; have t_n0 : (nI N).toInt = (N : Int) := nI_toInt (by omega); have t_n1 : (nI B).toInt = (B : Int) := nI_toInt (by omega); have t_n2 : (nI D).toInt = (D : Int) := nI_toInt (by omega); have t_n3 : (nI ii).toInt = (ii : Int) := nI_toInt (by omega); have t_n4 : (nI kk).toInt = (kk : Int) := nI_toInt (by omega); omega) (by have t_b4 := b4; have t_hii := hii; have t_hkk := hkk; have t_n0 : (nI N).toInt = (N : Int) := nI_toInt (by omega); have t_n1 : (nI B).toInt = (B : Int) := nI_toInt (by omega); have t_n2 : (nI D).toInt = (D : Int) := nI_toInt (by omega); have t_n3 : (nI ii).toInt = (ii : Int) := nI_toInt (by omega); have t_n4 : (nI kk).toInt = (kk : Int) := nI_toInt (by omega); omega)) (kwV hg mfX9_noiseBy wt_581 ⟨Nat.le_of_ble_eq_true rfl, Nat.le_of_ble_eq_true rfl⟩) (preVR hK hPc (ci := 9) rfl rfl) rfl rfl hl.1 rfl (lv_room (Nat.le_of_ble_eq_true rfl)) dX9_harmBy_17 ⟨Nat.le_of_ble_eq_true rfl, Nat.le_of_ble_eq_true rfl⟩) hS (fun q h1 h2 => absurd h2 (Nat.not_le.mpr h1)) (fun q h => hA q (Nat.le_trans hS.1 h)) (fun r5 ur5 t H1 locs ht hvm w6 hB hz1 hk1 hS => ?_)
    have hP := keepR hP hk1
    obtain ⟨w6, w6x⟩ := w6
    subst w6
    refine lv_aload_n hx hb dX9_harmBy_20 rfl (lv_at hl 0 rfl) ?_
    refine lv_iload_n hx hb dX9_harmBy_21 rfl (lv_at hl 1 rfl) ?_
    refine lv_iload_n hx hb dX9_harmBy_22 rfl (lv_at hl 3 rfl) ?_
    have hPc := hP.sub (ws' := [(h0, .inr (9, [.int (nI N), .int (nI B), .int (nI D), .ref a1, .ref a2, .ref a3, .ref a4, .ref a5, .ref a6])), (a2, .inl (G 0, 10, .inl f2)), (a4, .inl (G 0, 6, .inl f4)), (a6, .inl (G 0, 6, .inl f6))]) [0, 2, 3, 5] rfl
    refine va_calli (va_runV (As := [.int (nI ii), .int (nI kk)]) (rest := [.int (nzF (f1 ii) (f4 kk)), .int 20]) ⟨hx, hb, hml, hown, hg⟩ (c_X9_coldBy l dC dI G _ h0 a1 a2 a3 a4 a5 a6 N B D ii kk f2 f4 f6 (by have t_b4 := b4; have t_hii := hii; have t_hkk := hkk; have t_n0 : (nI N).toInt = (N : Int) := nI_toInt (by omega); have t_n1 : (nI B).toInt = (B : Int) := nI_toInt (by omega); have t_n2 : (nI D).toInt = (D : Int) := nI_toInt (by omega); have t_n3 : (nI ii).toInt = (ii : Int) := nI_toInt (by omega); have t_n4 : (nI kk).toInt = (kk : Int) := nI_toInt (by omega); omega) (by have t_b4 := b4; have t_hii := hii; have t_hkk := hkk; have t_n0 : (nI N).toInt = (N : Int) := nI_toInt (by omega); have t_n1 : (nI B).toInt = (B : Int) := nI_toInt (by omega); have t_n2 : (nI D).toInt = (D : Int) := nI_toInt (by omega); have t_n3 : (nI ii).toInt = (ii : Int) := nI_toInt (by omega); have t_n4 : (nI kk).toInt = (kk : Int) := nI_toInt (by omega); omega) (by have t_b4 := b4; have t_hii := hii; have t_hkk := hkk; have t_n0 : (nI N).toInt = (N : Int) := nI_toInt (by omega); have t_n1 : (nI B).toInt = (B : Int) := nI_toInt (by omega); have t_n2 : (nI D).toInt = (D : Int) := nI_toInt (by omega); have t_n3 : (nI ii).toInt = (ii : Int) := nI_toInt (by omega); have t_n4 : (nI kk).toInt = (kk : Int) := nI_toInt (by omega); omega) (by have t_b4 := b4; have t_hii := hii; have t_hkk := hkk; have t_n0 : (nI N).toInt = (N : Int) := nI_toInt (by omega); have t_n1 : (nI B).toInt = (B : Int) := nI_toInt (by omega); have t_n2 : (nI D).toInt = (D : Int) := nI_toInt (by omega); have t_n3 : (nI ii).toInt = (ii : Int) := nI_toInt (by omega); have t_n4 : (nI kk).toInt = (kk : Int) := nI_toInt (by omega); omega) (by have t_b4 := b4; have t_hii := hii; have t_hkk := hkk; have t_n0 : (nI N).toInt = (N : Int) := nI_toInt (by omega); have t_n1 : (nI B).toInt = (B : Int) := nI_toInt (by omega); have t_n2 : (nI D).toInt = (D : Int) := nI_toInt (by omega); have t_n3 : (nI ii).toInt = (ii : Int) := nI_toInt (by omega); have t_n4 : (nI kk).toInt = (kk : Int) := nI_toInt (by omega); omega)) (kwV hg mfX9_coldBy wt_586 ⟨Nat.le_of_ble_eq_true rfl, Nat.le_of_ble_eq_true rfl⟩) (preVR hK hPc (ci := 9) rfl rfl) rfl rfl hl.1 rfl (lv_room (Nat.le_of_ble_eq_true rfl)) dX9_harmBy_23 ⟨Nat.le_of_ble_eq_true rfl, Nat.le_of_ble_eq_true rfl⟩) hS (fun q h1 h2 => absurd h2 (Nat.not_le.mpr h1)) (fun q h => hA q (Nat.le_trans hS.1 h)) (fun r7 ur7 t H1 locs ht hvm w8 hB hz1 hk1 hS => ?_)
    have hP := keepR hP hk1
    obtain ⟨w8, w8x⟩ := w8
    subst w8
    refine lv_iadd hx hb dX9_harmBy_26 ?_
    refine lv_aload_n hx hb dX9_harmBy_27 rfl (lv_at hl 0 rfl) ?_
    refine lv_iload_n hx hb dX9_harmBy_28 rfl (lv_at hl 2 rfl) ?_
    refine lv_iload_n hx hb dX9_harmBy_29 rfl (lv_at hl 3 rfl) ?_
    have hPc := hP.sub (ws' := [(h0, .inr (9, [.int (nI N), .int (nI B), .int (nI D), .ref a1, .ref a2, .ref a3, .ref a4, .ref a5, .ref a6])), (a4, .inl (G 0, 6, .inl f4)), (a5, .inl (G 0, 6, .inl f5))]) [0, 3, 4] rfl
    refine va_calli (va_runV (As := [.int g, .int (nI kk)]) (rest := [.int ((nzF (f1 ii) (f4 kk)) + (cdF (f2 ii) (f6 kk) (f4 kk))), .int 20]) ⟨hx, hb, hml, hown, hg⟩ (c_X9_joltBy l dC dI G _ h0 a1 a2 a3 a4 a5 a6 N B D kk g f4 f5 (by have t_b4 := b4; have t_hii := hii; have t_hkk := hkk; have t_n0 : (nI N).toInt = (N : Int) := nI_toInt (by omega); have t_n1 : (nI B).toInt = (B : Int) := nI_toInt (by omega); have t_n2 : (nI D).toInt = (D : Int) := nI_toInt (by omega); have t_n3 : (nI ii).toInt = (ii : Int) := nI_toInt (by omega); have t_n4 : (nI kk).toInt = (kk : Int) := nI_toInt (by omega); omega) (by have t_b4 := b4; have t_hii := hii; have t_hkk := hkk; have t_n0 : (nI N).toInt = (N : Int) := nI_toInt (by omega); have t_n1 : (nI B).toInt = (B : Int) := nI_toInt (by omega); have t_n2 : (nI D).toInt = (D : Int) := nI_toInt (by omega); have t_n3 : (nI ii).toInt = (ii : Int) := nI_toInt (by omega); have t_n4 : (nI kk).toInt = (kk : Int) := nI_toInt (by omega); omega) (by have t_b4 := b4; have t_hii := hii; have t_hkk := hkk; have t_n0 : (nI N).toInt = (N : Int) := nI_toInt (by omega); have t_n1 : (nI B).toInt = (B : Int) := nI_toInt (by omega); have t_n2 : (nI D).toInt = (D : Int) := nI_toInt (by omega); have t_n3 : (nI ii).toInt = (ii : Int) := nI_toInt (by omega); have t_n4 : (nI kk).toInt = (kk : Int) := nI_toInt (by omega); omega) (by have t_b4 := b4; have t_hii := hii; have t_hkk := hkk; have t_n0 : (nI N).toInt = (N : Int) := nI_toInt (by omega); have t_n1 : (nI B).toInt = (B : Int) := nI_toInt (by omega); have t_n2 : (nI D).toInt = (D : Int) := nI_toInt (by omega); have t_n3 : (nI ii).toInt = (ii : Int) := nI_toInt (by omega); have t_n4 : (nI kk).toInt = (kk : Int) := nI_toInt (by omega); omega) (by have t_b4 := b4; have t_hii := hii; have t_hkk := hkk; have t_n0 : (nI N).toInt = (N : Int) := nI_toInt (by omega); have t_n1 : (nI B).toInt = (B : Int) := nI_toInt (by omega); have t_n2 : (nI D).toInt = (D : Int) := nI_toInt (by omega); have t_n3 : (nI ii).toInt = (ii : Int) := nI_toInt (by omega); have t_n4 : (nI kk).toInt = (kk : Int) := nI_toInt (by omega); omega)) (kwV hg mfX9_joltBy wt_590 ⟨Nat.le_of_ble_eq_true rfl, Nat.le_of_ble_eq_true rfl⟩) (preVR hK hPc (ci := 9) rfl rfl) rfl rfl hl.1 rfl (lv_room (Nat.le_of_ble_eq_true rfl)) dX9_harmBy_30 ⟨Nat.le_of_ble_eq_true rfl, Nat.le_of_ble_eq_true rfl⟩) hS (fun q h1 h2 => absurd h2 (Nat.not_le.mpr h1)) (fun q h => hA q (Nat.le_trans hS.1 h)) (fun r9 ur9 t H1 locs ht hvm w10 hB hz1 hk1 hS => ?_)
    have hP := keepR hP hk1
    obtain ⟨w10, w10x⟩ := w10
    subst w10
    refine lv_iadd hx hb dX9_harmBy_33 ?_
    have hPc := hP.sub (ws' := []) [] rfl
    refine va_calli (va_runS (As := [.int 20, .int (((nzF (f1 ii) (f4 kk)) + (cdF (f2 ii) (f6 kk) (f4 kk))) + (jlF g kk f4 f5))]) (rest := []) ⟨hx, hb, hml, hown, hg⟩ (c_J9_min l dC dI G _ 20 (((nzF (f1 ii) (f4 kk)) + (cdF (f2 ii) (f6 kk) (f4 kk))) + (jlF g kk f4 f5)) ) (kwS hg mfJ9_min_7cf53 wt_597 ⟨Nat.le_of_ble_eq_true rfl, Nat.le_of_ble_eq_true rfl⟩) (preSR hK hPc) rfl rfl hl.1 rfl (lv_room (Nat.le_of_ble_eq_true rfl)) dX9_harmBy_34 ⟨Nat.le_of_ble_eq_true rfl, Nat.le_of_ble_eq_true rfl⟩) hS (fun q h1 h2 => absurd h2 (Nat.not_le.mpr h1)) (fun q h => hA q (Nat.le_trans hS.1 h)) (fun r11 ur11 t H1 locs ht hvm w12 hB hz1 hk1 hS => ?_)
    have hP := keepR hP hk1
    obtain ⟨w12, w12x⟩ := w12
    subst w12
    have hpost : (mn 20 (((nzF (f1 ii) (f4 kk)) + (cdF (f2 ii) (f6 kk) (f4 kk))) + (jlF g kk f4 f5)) : Int32) = hmF N B f1 f2 f4 f5 f6 (nI ii) g (nI kk) := by
      have t_b4 := b4
      have t_hii := hii
      have t_hkk := hkk
      have t_n0 : (nI N).toInt = (N : Int) := nI_toInt (by omega)
      have t_n1 : (nI B).toInt = (B : Int) := nI_toInt (by omega)
      have t_n2 : (nI D).toInt = (D : Int) := nI_toInt (by omega)
      have t_n3 : (nI ii).toInt = (ii : Int) := nI_toInt (by omega)
      have t_n4 : (nI kk).toInt = (kk : Int) := nI_toInt (by omega)
      unfold hmF
      rw [nI_clamp (by omega), nI_clamp (by omega)]
      rw [if_pos (by omega)]
    refine W.widen (k := 0) (n := 0) (by omega) (by omega) ?_
    exact W.iret (v := mn 20 (((nzF (f1 ii) (f4 kk)) + (cdF (f2 ii) (f6 kk) (f4 kk))) + (jlF g kk f4 f5))) hx hb hr (fun t ht hW => ⟨⟨mn 20 (((nzF (f1 ii) (f4 kk)) + (cdF (f2 ii) (f6 kk) (f4 kk))) + (jlF g kk f4 f5)), (), rfl, ⟨hpost, trivial⟩, trivial⟩, hS.F ht⟩) hS.2.2 dX9_harmBy_37
  · skip
    have b13 := if10_n c3
    refine lv_iconst (v := 0) hx hb dX9_harmBy_10 (by decide) ?_
    have hpost : (0 : Int32) = hmF N B f1 f2 f4 f5 f6 i g k := by
      have t_b13 := b13
      have t_n0 : (nI N).toInt = (N : Int) := nI_toInt (by omega)
      have t_n1 : (nI B).toInt = (B : Int) := nI_toInt (by omega)
      have t_n2 : (nI D).toInt = (D : Int) := nI_toInt (by omega)
      exact (if_neg (by omega)).symm
    refine W.widen (k := 0) (n := 0) (by omega) (by omega) ?_
    exact W.iret (v := 0) hx hb hr (fun t ht hW => ⟨⟨0, (), rfl, ⟨hpost, trivial⟩, trivial⟩, hS.F ht⟩) hS.2.2 dX9_harmBy_11

set_option maxHeartbeats 1000000 in
set_option maxRecDepth 100000 in
theorem c_X9_harmInOrder (l : Launch) (dC : Nat → ClassId) (dI : Nat → Nat → Nat) (G : Nat → ClassId) (sz : Nat) (h0 a1 a2 a3 a4 a5 a6 N B D : Nat) (i : Int32) (f1 f2 f3 f4 f5 f6 : Nat → Int32) (hN_N : N ≤ 10) (hB_B : B ≤ 6) (hD_D : 1 ≤ D ∧ D ≤ 9) : Met l yX9_harmInOrder (Cond.code yX9_harmInOrder cX9_harmInOrder 2 (some .int) :: GT) ({ frames := 3, cells := 0, slots := 0, locals := 67 } : Room) (PcR [.ref h0, .int i] dC dI G [(h0, .inr (9, [.int (nI N), .int (nI B), .int (nI D), .ref a1, .ref a2, .ref a3, .ref a4, .ref a5, .ref a6])), (a1, .inl (G 0, 10, .inl f1)), (a2, .inl (G 0, 10, .inl f2)), (a3, .inl (G 0, 10, .inl f3)), (a4, .inl (G 0, 6, .inl f4)), (a5, .inl (G 0, 6, .inl f5)), (a6, .inl (G 0, 6, .inl f6))] sz) (va_Qi (fun (r : Int32) (u : Unit) => match u with | _ => (r = hmO N B f1 f2 f3 f4 f5 f6 i) ∧ True) (fun _ _ => True) (fun q : Nat => sz ≤ q)) 0 0 (fun q : Nat => sz ≤ q) := by
  refine Met.ofW (cc := cX9_harmInOrder) (maxL := 2) (ret := (some .int)) (by decide) rfl ?_
  intro p e s m args below meth c s₁ Bd hml hv
  obtain ⟨rfl, hsz, hP, hK⟩ := hv
  have hx := Bd.exec
  have hb := Bd.bytes
  have hr := Bd.returns
  have hg : ∀ w ∈ GT, w.before ([.ref h0, .int i] : List Value).toArray s = true := fun w h => atoms_spec (ws := Cond.code yX9_harmInOrder cX9_harmInOrder 2 (some .int) :: GT) Bd.pre w (List.mem_cons_of_mem _ h)
  have hown : s.vm.findClass RX9 = some m.cls := findClass_of_methodNamed Bd.named
  have hlocks := Bd.notSynchronized
  subst hsz
  have hA : ∀ q : Nat, s.heap.size ≤ q → (fun q : Nat => s.heap.size ≤ q) q := fun _ h => h
  have hS : va_S (fun q : Nat => s.heap.size ≤ q) s.heap s.heap [] := va_S.rf
  have hl := lv_entry ([.ref h0, .int i]) (n := 2) (Nat.le_of_ble_eq_true rfl)
  rw [lg_entry_eq]
  generalize (lg_sl ([.ref h0, .int i]) ++ List.replicate (2 - (lg_sl ([.ref h0, .int i])).length) Slot.unset).toArray = ls at hl ⊢
  have hl : lv_has ls 2 [(0, .ref h0), (1, .int i)] := hl
  refine lv_aload_n hx hb dX9_harmInOrder_0 rfl (lv_at hl 0 rfl) ?_
  refine lv_iload_n hx hb dX9_harmInOrder_1 rfl (lv_at hl 1 rfl) ?_
  have hPc := hP.sub (ws' := [(h0, .inr (9, [.int (nI N), .int (nI B), .int (nI D), .ref a1, .ref a2, .ref a3, .ref a4, .ref a5, .ref a6]))]) [0] rfl
  refine va_calli (va_runV (As := [.int i]) (rest := []) ⟨hx, hb, hml, hown, hg⟩ (c_X9_hasStretch l dC dI G _ h0 a1 a2 a3 a4 a5 a6 N B D i (by have t_n0 : (nI N).toInt = (N : Int) := nI_toInt (by omega); have t_n1 : (nI B).toInt = (B : Int) := nI_toInt (by omega); have t_n2 : (nI D).toInt = (D : Int) := nI_toInt (by omega); omega) (by have t_n0 : (nI N).toInt = (N : Int) := nI_toInt (by omega); have t_n1 : (nI B).toInt = (B : Int) := nI_toInt (by omega); have t_n2 : (nI D).toInt = (D : Int) := nI_toInt (by omega); omega) (by have t_n0 : (nI N).toInt = (N : Int) := nI_toInt (by omega); have t_n1 : (nI B).toInt = (B : Int) := nI_toInt (by omega); have t_n2 : (nI D).toInt = (D : Int) := nI_toInt (by omega); omega)) (kwV hg mfX9_hasStretch wt_574 ⟨Nat.le_of_ble_eq_true rfl, Nat.le_of_ble_eq_true rfl⟩) (preVR hK hPc (ci := 9) rfl rfl) rfl rfl hl.1 rfl (lv_room (Nat.le_of_ble_eq_true rfl)) dX9_harmInOrder_2 ⟨Nat.le_of_ble_eq_true rfl, Nat.le_of_ble_eq_true rfl⟩) hS (fun q h1 h2 => absurd h2 (Nat.not_le.mpr h1)) (fun q h => hA q (Nat.le_trans hS.1 h)) (fun r1 ur1 t H1 locs ht hvm w2 hB hz1 hk1 hS => ?_)
  have hP := keepR hP hk1
  obtain ⟨w2, w2x⟩ := w2
  try simp only [l_ii, show (0 : Int32).toInt = 0 from by decide] at w2
  try rw [nI_toInt (n := N) (by omega)] at w2
  subst w2
  refine lv_if_ne (tgt := 10) hx hb dX9_harmInOrder_5 (by decide) (fun c3 => ?_) (fun c3 => ?_)
  · skip
    have b4 := if10_p c3
    obtain ⟨ii, hii, rfl⟩ : ∃ j : Nat, j < 10 ∧ i = nI j := by
      have t_b4 := b4
      have t_n0 : (nI N).toInt = (N : Int) := nI_toInt (by omega)
      have t_n1 : (nI B).toInt = (B : Int) := nI_toInt (by omega)
      have t_n2 : (nI D).toInt = (D : Int) := nI_toInt (by omega)
      exact i32_nat (by omega) (by omega)
    refine lv_aload_n hx hb dX9_harmInOrder_10 rfl (lv_at hl 0 rfl) ?_
    refine lv_iload_n hx hb dX9_harmInOrder_11 rfl (lv_at hl 1 rfl) ?_
    refine lv_iload_n hx hb dX9_harmInOrder_12 rfl (lv_at hl 1 rfl) ?_
    refine lv_if_ne (tgt := 21) hx hb dX9_harmInOrder_13 (by decide) (fun c5 => ?_) (fun c5 => ?_)
    · skip
      have n6 : ii ≠ 0 := by have t := neI c5; rw [nI_toInt (n := ii) (by omega)] at t; have : (0 : Int32).toInt = 0 := (by decide); omega
      refine lv_aload_n hx hb dX9_harmInOrder_21 rfl (lv_at hl 0 rfl) ?_
      refine va_get (D := (dC, dI)) (ci := 9) (v := .ref a3) (C := RX9) (T := TX9) (N := 9) hx hb hg inG9 hown hK.1 hP 0 rfl rfl 5 (by decide) (hg _ wt_77) (fun _ h9 => h9) rfl dX9_harmInOrder_22 ?_
      refine lv_iload_n hx hb dX9_harmInOrder_25 rfl (lv_at hl 1 rfl) ?_
      refine lv_iconst (v := 1) hx hb dX9_harmInOrder_26 (by decide) ?_
      refine lv_isub hx hb dX9_harmInOrder_27 ?_
      refine lv_cg (y := nI (ii - 1)) (by rw [show (1 : Int32) = nI 1 from rfl]; exact pk_sub (by have t_b4 := b4; have t_hii := hii; have t_n6 := n6; have t_n0 : (nI N).toInt = (N : Int) := nI_toInt (by omega); have t_n1 : (nI B).toInt = (B : Int) := nI_toInt (by omega); have t_n2 : (nI D).toInt = (D : Int) := nI_toInt (by omega); have t_n3 : (nI ii).toInt = (ii : Int) := nI_toInt (by omega); omega)) ?_
      refine va_iald hx hb hK.1 hP 3 0 rfl rfl (vp_in_nI (by have t_b4 := b4; have t_hii := hii; have t_n6 := n6; have t_n0 : (nI N).toInt = (N : Int) := nI_toInt (by omega); have t_n1 : (nI B).toInt = (B : Int) := nI_toInt (by omega); have t_n2 : (nI D).toInt = (D : Int) := nI_toInt (by omega); have t_n3 : (nI ii).toInt = (ii : Int) := nI_toInt (by omega); omega) (by decide)) dX9_harmInOrder_28 ?_
      refine lv_cg (y := f3 (ii - 1)) (by rw [nI_clamp (by omega)]) ?_
      refine lv_aload_n hx hb dX9_harmInOrder_29 rfl (lv_at hl 0 rfl) ?_
      refine va_get (D := (dC, dI)) (ci := 9) (v := .ref a3) (C := RX9) (T := TX9) (N := 9) hx hb hg inG9 hown hK.1 hP 0 rfl rfl 5 (by decide) (hg _ wt_77) (fun _ h9 => h9) rfl dX9_harmInOrder_30 ?_
      refine lv_iload_n hx hb dX9_harmInOrder_33 rfl (lv_at hl 1 rfl) ?_
      refine va_iald hx hb hK.1 hP 3 0 rfl rfl (vp_in_nI (by have t_b4 := b4; have t_hii := hii; have t_n6 := n6; have t_n0 : (nI N).toInt = (N : Int) := nI_toInt (by omega); have t_n1 : (nI B).toInt = (B : Int) := nI_toInt (by omega); have t_n2 : (nI D).toInt = (D : Int) := nI_toInt (by omega); have t_n3 : (nI ii).toInt = (ii : Int) := nI_toInt (by omega); omega) (by decide)) dX9_harmInOrder_34 ?_
      refine lv_cg (y := f3 ii) (by rw [nI_clamp (by omega)]) ?_
      have hPc := hP.sub (ws' := [(h0, .inr (9, [.int (nI N), .int (nI B), .int (nI D), .ref a1, .ref a2, .ref a3, .ref a4, .ref a5, .ref a6])), (a1, .inl (G 0, 10, .inl f1)), (a2, .inl (G 0, 10, .inl f2)), (a4, .inl (G 0, 6, .inl f4)), (a5, .inl (G 0, 6, .inl f5)), (a6, .inl (G 0, 6, .inl f6))]) [0, 1, 2, 4, 5, 6] rfl
      refine va_calli (va_runV (As := [.int (nI ii), .int (f3 (ii - 1)), .int (f3 ii)]) (rest := []) ⟨hx, hb, hml, hown, hg⟩ (c_X9_harmBy l dC dI G _ h0 a1 a2 a3 a4 a5 a6 N B D (nI ii) (f3 (ii - 1)) (f3 ii) f1 f2 f4 f5 f6 (by have t_b4 := b4; have t_hii := hii; have t_n6 := n6; have t_n0 : (nI N).toInt = (N : Int) := nI_toInt (by omega); have t_n1 : (nI B).toInt = (B : Int) := nI_toInt (by omega); have t_n2 : (nI D).toInt = (D : Int) := nI_toInt (by omega); have t_n3 : (nI ii).toInt = (ii : Int) := nI_toInt (by omega); omega) (by have t_b4 := b4; have t_hii := hii; have t_n6 := n6; have t_n0 : (nI N).toInt = (N : Int) := nI_toInt (by omega); have t_n1 : (nI B).toInt = (B : Int) := nI_toInt (by omega); have t_n2 : (nI D).toInt = (D : Int) := nI_toInt (by omega); have t_n3 : (nI ii).toInt = (ii : Int) := nI_toInt (by omega); omega) (by have t_b4 := b4; have t_hii := hii; have t_n6 := n6; have t_n0 : (nI N).toInt = (N : Int) := nI_toInt (by omega); have t_n1 : (nI B).toInt = (B : Int) := nI_toInt (by omega); have t_n2 : (nI D).toInt = (D : Int) := nI_toInt (by omega); have t_n3 : (nI ii).toInt = (ii : Int) := nI_toInt (by omega); omega)) (kwV hg mfX9_harmBy wt_629 ⟨Nat.le_of_ble_eq_true rfl, Nat.le_of_ble_eq_true rfl⟩) (preVR hK hPc (ci := 9) rfl rfl) rfl rfl hl.1 rfl (lv_room (Nat.le_of_ble_eq_true rfl)) dX9_harmInOrder_35 ⟨Nat.le_of_ble_eq_true rfl, Nat.le_of_ble_eq_true rfl⟩) hS (fun q h1 h2 => absurd h2 (Nat.not_le.mpr h1)) (fun q h => hA q (Nat.le_trans hS.1 h)) (fun r7 ur7 t H1 locs ht hvm w8 hB hz1 hk1 hS => ?_)
      have hP := keepR hP hk1
      obtain ⟨w8, w8x⟩ := w8
      subst w8
      have hpost : (hmF N B f1 f2 f4 f5 f6 (nI ii) (f3 (ii - 1)) (f3 ii) : Int32) = hmO N B f1 f2 f3 f4 f5 f6 (nI ii) := by
        have t_b4 := b4
        have t_hii := hii
        have t_n6 := n6
        have t_n0 : (nI N).toInt = (N : Int) := nI_toInt (by omega)
        have t_n1 : (nI B).toInt = (B : Int) := nI_toInt (by omega)
        have t_n2 : (nI D).toInt = (D : Int) := nI_toInt (by omega)
        have t_n3 : (nI ii).toInt = (ii : Int) := nI_toInt (by omega)
        unfold hmO
        rw [nI_clamp (by omega), if_pos (by omega)]
        first | rw [if_pos (by assumption)] | rw [if_neg (by assumption)] | (split <;> first | rfl | contradiction)
      refine W.widen (k := 0) (n := 0) (by omega) (by omega) ?_
      exact W.iret (v := hmF N B f1 f2 f4 f5 f6 (nI ii) (f3 (ii - 1)) (f3 ii)) hx hb hr (fun t ht hW => ⟨⟨hmF N B f1 f2 f4 f5 f6 (nI ii) (f3 (ii - 1)) (f3 ii), (), rfl, ⟨hpost, trivial⟩, trivial⟩, hS.F ht⟩) hS.2.2 dX9_harmInOrder_38
    · skip
      have n9 : ii = 0 := by have t := eqI c5; rw [nI_toInt (n := ii) (by omega)] at t; have : (0 : Int32).toInt = 0 := (by decide); omega
      refine lv_bipush (v := (-4)) hx hb dX9_harmInOrder_16 (by decide) ?_
      refine lv_goto (tgt := 29) hx hb dX9_harmInOrder_18 (by decide) ?_
      refine lv_aload_n hx hb dX9_harmInOrder_29 rfl (lv_at hl 0 rfl) ?_
      refine va_get (D := (dC, dI)) (ci := 9) (v := .ref a3) (C := RX9) (T := TX9) (N := 9) hx hb hg inG9 hown hK.1 hP 0 rfl rfl 5 (by decide) (hg _ wt_77) (fun _ h9 => h9) rfl dX9_harmInOrder_30 ?_
      refine lv_iload_n hx hb dX9_harmInOrder_33 rfl (lv_at hl 1 rfl) ?_
      refine va_iald hx hb hK.1 hP 3 0 rfl rfl (vp_in_nI (by have t_b4 := b4; have t_hii := hii; have t_n9 := n9; have t_n0 : (nI N).toInt = (N : Int) := nI_toInt (by omega); have t_n1 : (nI B).toInt = (B : Int) := nI_toInt (by omega); have t_n2 : (nI D).toInt = (D : Int) := nI_toInt (by omega); have t_n3 : (nI ii).toInt = (ii : Int) := nI_toInt (by omega); omega) (by decide)) dX9_harmInOrder_34 ?_
      refine lv_cg (y := f3 ii) (by rw [nI_clamp (by omega)]) ?_
      have hPc := hP.sub (ws' := [(h0, .inr (9, [.int (nI N), .int (nI B), .int (nI D), .ref a1, .ref a2, .ref a3, .ref a4, .ref a5, .ref a6])), (a1, .inl (G 0, 10, .inl f1)), (a2, .inl (G 0, 10, .inl f2)), (a4, .inl (G 0, 6, .inl f4)), (a5, .inl (G 0, 6, .inl f5)), (a6, .inl (G 0, 6, .inl f6))]) [0, 1, 2, 4, 5, 6] rfl
      refine va_calli (va_runV (As := [.int (nI ii), .int (-4), .int (f3 ii)]) (rest := []) ⟨hx, hb, hml, hown, hg⟩ (c_X9_harmBy l dC dI G _ h0 a1 a2 a3 a4 a5 a6 N B D (nI ii) (-4) (f3 ii) f1 f2 f4 f5 f6 (by have t_b4 := b4; have t_hii := hii; have t_n9 := n9; have t_n0 : (nI N).toInt = (N : Int) := nI_toInt (by omega); have t_n1 : (nI B).toInt = (B : Int) := nI_toInt (by omega); have t_n2 : (nI D).toInt = (D : Int) := nI_toInt (by omega); have t_n3 : (nI ii).toInt = (ii : Int) := nI_toInt (by omega); have : ((-4) : Int32).toInt = -4 := (by decide); omega) (by have t_b4 := b4; have t_hii := hii; have t_n9 := n9; have t_n0 : (nI N).toInt = (N : Int) := nI_toInt (by omega); have t_n1 : (nI B).toInt = (B : Int) := nI_toInt (by omega); have t_n2 : (nI D).toInt = (D : Int) := nI_toInt (by omega); have t_n3 : (nI ii).toInt = (ii : Int) := nI_toInt (by omega); have : ((-4) : Int32).toInt = -4 := (by decide); omega) (by have t_b4 := b4; have t_hii := hii; have t_n9 := n9; have t_n0 : (nI N).toInt = (N : Int) := nI_toInt (by omega); have t_n1 : (nI B).toInt = (B : Int) := nI_toInt (by omega); have t_n2 : (nI D).toInt = (D : Int) := nI_toInt (by omega); have t_n3 : (nI ii).toInt = (ii : Int) := nI_toInt (by omega); have : ((-4) : Int32).toInt = -4 := (by decide); omega)) (kwV hg mfX9_harmBy wt_629 ⟨Nat.le_of_ble_eq_true rfl, Nat.le_of_ble_eq_true rfl⟩) (preVR hK hPc (ci := 9) rfl rfl) rfl rfl hl.1 rfl (lv_room (Nat.le_of_ble_eq_true rfl)) dX9_harmInOrder_35 ⟨Nat.le_of_ble_eq_true rfl, Nat.le_of_ble_eq_true rfl⟩) hS (fun q h1 h2 => absurd h2 (Nat.not_le.mpr h1)) (fun q h => hA q (Nat.le_trans hS.1 h)) (fun r10 ur10 t H1 locs ht hvm w11 hB hz1 hk1 hS => ?_)
      have hP := keepR hP hk1
      obtain ⟨w11, w11x⟩ := w11
      subst w11
      have hpost : (hmF N B f1 f2 f4 f5 f6 (nI ii) (-4) (f3 ii) : Int32) = hmO N B f1 f2 f3 f4 f5 f6 (nI ii) := by
        have t_b4 := b4
        have t_hii := hii
        have t_n9 := n9
        have t_n0 : (nI N).toInt = (N : Int) := nI_toInt (by omega)
        have t_n1 : (nI B).toInt = (B : Int) := nI_toInt (by omega)
        have t_n2 : (nI D).toInt = (D : Int) := nI_toInt (by omega)
        have t_n3 : (nI ii).toInt = (ii : Int) := nI_toInt (by omega)
        unfold hmO
        rw [nI_clamp (by omega), if_pos (by omega)]
        first | rw [if_pos (by assumption)] | rw [if_neg (by assumption)] | (split <;> first | rfl | contradiction)
      refine W.widen (k := 0) (n := 0) (by omega) (by omega) ?_
      exact W.iret (v := hmF N B f1 f2 f4 f5 f6 (nI ii) (-4) (f3 ii)) hx hb hr (fun t ht hW => ⟨⟨hmF N B f1 f2 f4 f5 f6 (nI ii) (-4) (f3 ii), (), rfl, ⟨hpost, trivial⟩, trivial⟩, hS.F ht⟩) hS.2.2 dX9_harmInOrder_38
  · skip
    have b12 := if10_n c3
    refine lv_iconst (v := 0) hx hb dX9_harmInOrder_8 (by decide) ?_
    have hpost : (0 : Int32) = hmO N B f1 f2 f3 f4 f5 f6 i := by
      have t_b12 := b12
      have t_n0 : (nI N).toInt = (N : Int) := nI_toInt (by omega)
      have t_n1 : (nI B).toInt = (B : Int) := nI_toInt (by omega)
      have t_n2 : (nI D).toInt = (D : Int) := nI_toInt (by omega)
      exact (if_neg (by omega)).symm
    refine W.widen (k := 0) (n := 0) (by omega) (by omega) ?_
    exact W.iret (v := 0) hx hb hr (fun t ht hW => ⟨⟨0, (), rfl, ⟨hpost, trivial⟩, trivial⟩, hS.F ht⟩) hS.2.2 dX9_harmInOrder_9

set_option maxHeartbeats 1000000 in
set_option maxRecDepth 100000 in
theorem c_X7_byteAt (l : Launch) (dC : Nat → ClassId) (dI : Nat → Nat → Nat) (G : Nat → ClassId) (sz : Nat) (h0 ta T : Nat) (i : Int32) (f : Nat → Int32) (hT : T ≤ 320) : Met l yX7_byteAt (Cond.code yX7_byteAt cX7_byteAt 2 (some .int) :: GT) ({ frames := 0, cells := 0, slots := 0, locals := 0 } : Room) (PcR [.ref h0, .int i] dC dI G [(h0, .inr (7, [.int (nI T), .ref ta])), (ta, .inl (G 0, 320, .inl f))] sz) (va_Qi (fun (r : Int32) (u : Unit) => match u with | _ => (r = if 0 ≤ i.toInt ∧ i.toInt < ((T : Nat) : Int) then f i.toNatClampNeg else 0) ∧ True) (fun _ _ => True) (fun q : Nat => sz ≤ q)) 0 0 (fun q : Nat => sz ≤ q) := by
  refine Met.ofW (cc := cX7_byteAt) (maxL := 2) (ret := (some .int)) (by decide) rfl ?_
  intro p e s m args below meth c s₁ Bd hml hv
  obtain ⟨rfl, hsz, hP, hK⟩ := hv
  have hx := Bd.exec
  have hb := Bd.bytes
  have hr := Bd.returns
  have hg : ∀ w ∈ GT, w.before ([.ref h0, .int i] : List Value).toArray s = true := fun w h => atoms_spec (ws := Cond.code yX7_byteAt cX7_byteAt 2 (some .int) :: GT) Bd.pre w (List.mem_cons_of_mem _ h)
  have hown : s.vm.findClass RX7 = some m.cls := findClass_of_methodNamed Bd.named
  have hlocks := Bd.notSynchronized
  subst hsz
  have hA : ∀ q : Nat, s.heap.size ≤ q → (fun q : Nat => s.heap.size ≤ q) q := fun _ h => h
  have hS : va_S (fun q : Nat => s.heap.size ≤ q) s.heap s.heap [] := va_S.rf
  have hl := lv_entry ([.ref h0, .int i]) (n := 2) (Nat.le_of_ble_eq_true rfl)
  rw [lg_entry_eq]
  generalize (lg_sl ([.ref h0, .int i]) ++ List.replicate (2 - (lg_sl ([.ref h0, .int i])).length) Slot.unset).toArray = ls at hl ⊢
  have hl : lv_has ls 2 [(0, .ref h0), (1, .int i)] := hl
  refine lv_iload_n hx hb dX7_byteAt_0 rfl (lv_at hl 1 rfl) ?_
  refine lv_if_lt (tgt := 21) hx hb dX7_byteAt_1 (by decide) (fun c1 => ?_) (fun c1 => ?_)
  · skip
    refine lv_iconst (v := 0) hx hb dX7_byteAt_21 (by decide) ?_
    have hpost : (0 : Int32) = if 0 ≤ i.toInt ∧ i.toInt < ((T : Nat) : Int) then f i.toNatClampNeg else 0 := by
      have t_c1 := ltI c1
      have : (0 : Int32).toInt = 0 := (by decide)
      have t_n0 : (nI T).toInt = (T : Int) := nI_toInt (by omega)
      have t_n0 : (nI T).toInt = (T : Int) := nI_toInt (by omega)
      first | rfl | ((repeat' split) <;> first | rfl | omega)
    refine W.widen (k := 0) (n := 0) (by omega) (by omega) ?_
    exact W.iret (v := 0) hx hb hr (fun t ht hW => ⟨⟨0, (), rfl, ⟨hpost, trivial⟩, trivial⟩, hS.F ht⟩) hS.2.2 dX7_byteAt_22
  · skip
    refine lv_iload_n hx hb dX7_byteAt_4 rfl (lv_at hl 1 rfl) ?_
    refine lv_aload_n hx hb dX7_byteAt_5 rfl (lv_at hl 0 rfl) ?_
    refine va_get (D := (dC, dI)) (ci := 7) (v := .int (nI T)) (C := RX7) (T := TX7) (N := 2) hx hb hg inG7 hown hK.1 hP 0 rfl rfl 0 (by decide) (hg _ wt_40) (fun _ h9 => h9) rfl dX7_byteAt_6 ?_
    refine lv_icmp_ge (tgt := 21) hx hb dX7_byteAt_9 (by decide) (fun c2 => ?_) (fun c2 => ?_)
    · skip
      refine lv_iconst (v := 0) hx hb dX7_byteAt_21 (by decide) ?_
      have hpost : (0 : Int32) = if 0 ≤ i.toInt ∧ i.toInt < ((T : Nat) : Int) then f i.toNatClampNeg else 0 := by
        have t_c1 := nltI c1
        have t_c2 := leI c2
        have : (0 : Int32).toInt = 0 := (by decide)
        have t_n0 : (nI T).toInt = (T : Int) := nI_toInt (by omega)
        have t_n0 : (nI T).toInt = (T : Int) := nI_toInt (by omega)
        first | rfl | ((repeat' split) <;> first | rfl | omega)
      refine W.widen (k := 0) (n := 0) (by omega) (by omega) ?_
      exact W.iret (v := 0) hx hb hr (fun t ht hW => ⟨⟨0, (), rfl, ⟨hpost, trivial⟩, trivial⟩, hS.F ht⟩) hS.2.2 dX7_byteAt_22
    · skip
      refine lv_aload_n hx hb dX7_byteAt_12 rfl (lv_at hl 0 rfl) ?_
      refine va_get (D := (dC, dI)) (ci := 7) (v := .ref ta) (C := RX7) (T := TX7) (N := 2) hx hb hg inG7 hown hK.1 hP 0 rfl rfl 1 (by decide) (hg _ wt_43) (fun _ h9 => h9) rfl dX7_byteAt_13 ?_
      refine lv_iload_n hx hb dX7_byteAt_16 rfl (lv_at hl 1 rfl) ?_
      refine va_iald hx hb hK.1 hP 1 0 rfl rfl (vp_in_iff.mpr (by have t_c1 := nltI c1; have t_c2 := nleI c2; have : (0 : Int32).toInt = 0 := (by decide); have t_n0 : (nI T).toInt = (T : Int) := nI_toInt (by omega); constructor <;> omega)) dX7_byteAt_17 ?_
      refine lv_goto (tgt := 22) hx hb dX7_byteAt_18 (by decide) ?_
      have hpost : (f i.toNatClampNeg : Int32) = if 0 ≤ i.toInt ∧ i.toInt < ((T : Nat) : Int) then f i.toNatClampNeg else 0 := by
        have t_c1 := nltI c1
        have t_c2 := nleI c2
        have : (0 : Int32).toInt = 0 := (by decide)
        have t_n0 : (nI T).toInt = (T : Int) := nI_toInt (by omega)
        have t_n0 : (nI T).toInt = (T : Int) := nI_toInt (by omega)
        first | rfl | ((repeat' split) <;> first | rfl | omega)
      refine W.widen (k := 0) (n := 0) (by omega) (by omega) ?_
      exact W.iret (v := f i.toNatClampNeg) hx hb hr (fun t ht hW => ⟨⟨f i.toNatClampNeg, (), rfl, ⟨hpost, trivial⟩, trivial⟩, hS.F ht⟩) hS.2.2 dX7_byteAt_22

set_option maxHeartbeats 1000000 in
set_option maxRecDepth 100000 in
theorem c_X4_begin (l : Launch) (dC : Nat → ClassId) (dI : Nat → Nat → Nat) (G : Nat → ClassId) (sz : Nat) (h0 sa aa : Nat) (i : Int32) (w0 : Int64) (f g : Nat → Int64)  : Met l yX4_begin (Cond.code yX4_begin cX4_begin 3 none :: GT) ({ frames := 0, cells := 0, slots := 0, locals := 0 } : Room) (PcW [.ref h0, .int i] dC dI G [(h0, .inr (4, [.long w0, .ref sa, .ref aa])), (sa, .inl (G 1, 10, .inr (.inl f))), (aa, .inl (G 1, 10, .inr (.inl g)))] sz) (va_Qv (fun (u : Int64 × (Nat → Int64) × (Nat → Int64)) => match u with | (u0, u1, u2) => True) (fun (u : Int64 × (Nat → Int64) × (Nat → Int64)) (t : State) => match u with | (u0, u1, u2) => va_P (dC, dI) vwCl [(h0, .inr (4, [.long u0, .ref sa, .ref aa])), (sa, .inl (G 1, 10, .inr (.inl u1))), (aa, .inl (G 1, 10, .inr (.inl u2)))] t.heap ∧ va_D (va_A [(h0, .inr (4, [.long w0, .ref sa, .ref aa])), (sa, .inl (G 1, 10, .inr (.inl f))), (aa, .inl (G 1, 10, .inr (.inl g)))] sz) [(h0, .inr (4, [.long u0, .ref sa, .ref aa])), (sa, .inl (G 1, 10, .inr (.inl u1))), (aa, .inl (G 1, 10, .inr (.inl u2)))]) (va_A [(h0, .inr (4, [.long w0, .ref sa, .ref aa])), (sa, .inl (G 1, 10, .inr (.inl f))), (aa, .inl (G 1, 10, .inr (.inl g)))] sz)) 0 0 (va_A [(h0, .inr (4, [.long w0, .ref sa, .ref aa])), (sa, .inl (G 1, 10, .inr (.inl f))), (aa, .inl (G 1, 10, .inr (.inl g)))] sz) := by
  refine Met.ofW (cc := cX4_begin) (maxL := 3) (ret := none) (by decide) rfl ?_
  intro p e s m args below meth c s₁ Bd hml hv
  obtain ⟨rfl, hsz, hP, hK, hD0⟩ := hv
  have hx := Bd.exec
  have hb := Bd.bytes
  have hr := Bd.returns
  have hg : ∀ w ∈ GT, w.before ([.ref h0, .int i] : List Value).toArray s = true := fun w h => atoms_spec (ws := Cond.code yX4_begin cX4_begin 3 none :: GT) Bd.pre w (List.mem_cons_of_mem _ h)
  have hown : s.vm.findClass RX4 = some m.cls := findClass_of_methodNamed Bd.named
  have hlocks := Bd.notSynchronized
  subst hsz
  have hD := hD0.self (sz := s.heap.size)
  generalize hAe : va_A [(h0, .inr (4, [.long w0, .ref sa, .ref aa])), (sa, .inl (G 1, 10, .inr (.inl f))), (aa, .inl (G 1, 10, .inr (.inl g)))] s.heap.size = A at hD ⊢
  have hA : ∀ q : Nat, s.heap.size ≤ q → A q := fun q h => by rw [← hAe]; exact Or.inr h
  have hS : va_S A s.heap s.heap [] := va_S.rf
  have hl := lv_entry ([.ref h0, .int i]) (n := 3) (Nat.le_of_ble_eq_true rfl)
  rw [lg_entry_eq]
  generalize (lg_sl ([.ref h0, .int i]) ++ List.replicate (3 - (lg_sl ([.ref h0, .int i])).length) Slot.unset).toArray = ls at hl ⊢
  have hl : lv_has ls 3 [(0, .ref h0), (1, .int i)] := hl
  refine lv_aload_n hx hb dX4_begin_0 rfl (lv_at hl 0 rfl) ?_
  refine lv_lconst (v := 1) hx hb dX4_begin_1 (by decide) ?_
  refine va_put (D := (dC, dI)) (ci := 4) (v := .long 1) (ty := .long) (C := RX4) (T := TX4) (N := 3) hx hb hg inG4 tyX4 tyX4_ok nmX4 hown hK.1 hP hD hS 0 rfl rfl 0 (by decide) (hg _ wt_156) (fun _ h9 => h9) rfl (by decide +kernel) rfl rfl (Nat.le_of_ble_eq_true rfl) dX4_begin_2 (fun H locs hP hD hS => ?_)
  have hP : va_P (dC, dI) vwCl [(h0, .inr (4, [.long 1, .ref sa, .ref aa])), (sa, .inl (G 1, 10, .inr (.inl f))), (aa, .inl (G 1, 10, .inr (.inl g)))] H := hP
  have hD : va_D A [(h0, .inr (4, [.long 1, .ref sa, .ref aa])), (sa, .inl (G 1, 10, .inr (.inl f))), (aa, .inl (G 1, 10, .inr (.inl g)))] := hD
  refine lv_iconst (v := 0) hx hb dX4_begin_5 (by decide) ?_
  refine lv_istore_n (lv' := [(2, .int 0), (0, .ref h0), (1, .int i)]) hx hb dX4_begin_6 rfl hl (by decide) rfl (fun ls hl => ?_)
  have loop7_3 : ∀ (nf j1 : Nat), 10 + 1 ≤ j1 + nf → j1 ≤ 10 → ∀ (g2 : Nat → Int64) (H : Heap) (locs : List Loc), va_P (dC, dI) vwCl [(h0, .inr (4, [.long 1, .ref sa, .ref aa])), (sa, .inl (G 1, 10, .inr (.inl g2))), (aa, .inl (G 1, 10, .inr (.inl g)))] H → va_D A [(h0, .inr (4, [.long 1, .ref sa, .ref aa])), (sa, .inl (G 1, 10, .inr (.inl g2))), (aa, .inl (G 1, 10, .inr (.inl g)))] → va_S A s.heap H locs → ∀ (ls : Array Slot), lv_has ls 3 [(2, .int (nI j1)), (0, .ref h0), (1, .int i)] → W p l e (headSpec (Cond.code yX4_begin cX4_begin 3 none :: GT) ({ frames := 0, cells := 0, slots := 0, locals := 0 } : Room)).room s m ([.ref h0, .int i] : List Value).toArray below meth c H locs 0 0 (MQ below (va_Qv (fun (u : Int64 × (Nat → Int64) × (Nat → Int64)) => match u with | (u0, u1, u2) => True) (fun (u : Int64 × (Nat → Int64) × (Nat → Int64)) (t : State) => match u with | (u0, u1, u2) => va_P (dC, dI) vwCl [(h0, .inr (4, [.long u0, .ref sa, .ref aa])), (sa, .inl (G 1, 10, .inr (.inl u1))), (aa, .inl (G 1, 10, .inr (.inl u2)))] t.heap ∧ va_D A [(h0, .inr (4, [.long u0, .ref sa, .ref aa])), (sa, .inl (G 1, 10, .inr (.inl u1))), (aa, .inl (G 1, 10, .inr (.inl u2)))]) A) ([.ref h0, .int i] : List Value).toArray s 0 0 A) (F0 m 7 ls []) := by
    intro nf
    induction nf with
    | zero => intro j1 h1 h2; exact absurd h1 (by omega)
    | succ nf ih7_3 =>
      intro j1 hn4 hj5 g2 H locs hP hD hS ls hl
      refine lv_iload_n hx hb dX4_begin_7 rfl (lv_at hl 0 rfl) ?_
      refine lv_bipush (v := 10) hx hb dX4_begin_8 (by decide) ?_
      refine lv_icmp_ge (tgt := 35) hx hb dX4_begin_10 (by decide) (fun c6 => ?_) (fun c6 => ?_)
      · skip
        have n7 : 10 ≤ j1 := by have t := leI c6; rw [nI_toInt (n := j1) (by omega)] at t; have : (10 : Int32).toInt = 10 := (by decide); omega
        have hP9 := hP.sub (ws' := [(h0, .inr (4, [.long 1, .ref sa, .ref aa])), (sa, .inl (G 1, 10, .inr (.inl g2))), (aa, .inl (G 1, 10, .inr (.inl g)))]) [0, 1, 2] rfl
        have hD9 := hD.sub (ws' := [(h0, .inr (4, [.long 1, .ref sa, .ref aa])), (sa, .inl (G 1, 10, .inr (.inl g2))), (aa, .inl (G 1, 10, .inr (.inl g)))]) [0, 1, 2] (by decide) rfl
        refine W.widen (k := 0) (n := 0) (by omega) (by omega) ?_
        exact W.vret hx hb hr (fun t ht hW => ⟨⟨(1, g2, g), rfl, trivial, ⟨by rw [ht]; exact hP9, hD9⟩⟩, hS.F ht⟩) hS.2.2 dX4_begin_35
      · skip
        have n8 : j1 < 10 := by have t := nleI c6; rw [nI_toInt (n := j1) (by omega)] at t; have : (10 : Int32).toInt = 10 := (by decide); omega
        refine lv_aload_n hx hb dX4_begin_13 rfl (lv_at hl 1 rfl) ?_
        refine va_get (D := (dC, dI)) (ci := 4) (v := .ref sa) (C := RX4) (T := TX4) (N := 3) hx hb hg inG4 hown hK.1 hP 0 rfl rfl 1 (by decide) (hg _ wt_158) (fun _ h9 => h9) rfl dX4_begin_14 ?_
        refine lv_iload_n hx hb dX4_begin_17 rfl (lv_at hl 0 rfl) ?_
        refine lv_iload_n hx hb dX4_begin_18 rfl (lv_at hl 0 rfl) ?_
        refine lv_iload_n hx hb dX4_begin_19 rfl (lv_at hl 2 rfl) ?_
        refine lv_icmp_ne (tgt := 27) hx hb dX4_begin_20 (by decide) (fun c9 => ?_) (fun c9 => ?_)
        · skip
          refine lv_lconst (v := 0) hx hb dX4_begin_27 (by decide) ?_
          refine va_last hx hb hK.1 hP hD hS 1 1 rfl rfl (vp_in_nI (by have t_hj5 := hj5; have t_n8 := n8; have t_c9 := neI c9; have t_n0 : (nI j1).toInt = (j1 : Int) := nI_toInt (by omega); omega) (by decide)) dX4_begin_28 (fun H locs hP hD hS => ?_)
          rw [nI_clamp (by omega)] at hP hD
          have hP : va_P (dC, dI) vwCl [(h0, .inr (4, [.long 1, .ref sa, .ref aa])), (sa, .inl (G 1, 10, .inr (.inl (vp_updL g2 j1 0)))), (aa, .inl (G 1, 10, .inr (.inl g)))] H := hP
          have hD : va_D A [(h0, .inr (4, [.long 1, .ref sa, .ref aa])), (sa, .inl (G 1, 10, .inr (.inl (vp_updL g2 j1 0)))), (aa, .inl (G 1, 10, .inr (.inl g)))] := hD
          refine lv_iinc (v := nI (j1 + 1)) (lv' := [(2, .int (nI (j1 + 1))), (0, .ref h0), (1, .int i)]) hx hb dX4_begin_29 hl (k := 0) rfl (by rw [show Int32.ofInt 1 = nI 1 from by decide]; exact nI_add _ _) (by decide) rfl (fun ls hl => ?_)
          refine lv_goto (tgt := 7) hx hb dX4_begin_32 (by decide) ?_
          exact ih7_3 (j1 + 1) (by omega) (by omega) (vp_updL g2 j1 0) _ _ hP hD hS ls (lv_sub hl [0, 1, 2] rfl)
        · skip
          refine lv_lconst (v := 1) hx hb dX4_begin_23 (by decide) ?_
          refine lv_goto (tgt := 28) hx hb dX4_begin_24 (by decide) ?_
          refine va_last hx hb hK.1 hP hD hS 1 1 rfl rfl (vp_in_nI (by have t_hj5 := hj5; have t_n8 := n8; have t_c9 := eqI c9; have t_n0 : (nI j1).toInt = (j1 : Int) := nI_toInt (by omega); omega) (by decide)) dX4_begin_28 (fun H locs hP hD hS => ?_)
          rw [nI_clamp (by omega)] at hP hD
          have hP : va_P (dC, dI) vwCl [(h0, .inr (4, [.long 1, .ref sa, .ref aa])), (sa, .inl (G 1, 10, .inr (.inl (vp_updL g2 j1 1)))), (aa, .inl (G 1, 10, .inr (.inl g)))] H := hP
          have hD : va_D A [(h0, .inr (4, [.long 1, .ref sa, .ref aa])), (sa, .inl (G 1, 10, .inr (.inl (vp_updL g2 j1 1)))), (aa, .inl (G 1, 10, .inr (.inl g)))] := hD
          refine lv_iinc (v := nI (j1 + 1)) (lv' := [(2, .int (nI (j1 + 1))), (0, .ref h0), (1, .int i)]) hx hb dX4_begin_29 hl (k := 0) rfl (by rw [show Int32.ofInt 1 = nI 1 from by decide]; exact nI_add _ _) (by decide) rfl (fun ls hl => ?_)
          refine lv_goto (tgt := 7) hx hb dX4_begin_32 (by decide) ?_
          exact ih7_3 (j1 + 1) (by omega) (by omega) (vp_updL g2 j1 1) _ _ hP hD hS ls (lv_sub hl [0, 1, 2] rfl)
  exact loop7_3 (10 + 1) 0 (by omega) (by omega) f _ _ hP hD hS ls (lv_sub hl [0, 1, 2] rfl)

set_option maxHeartbeats 1000000 in
set_option maxRecDepth 100000 in
theorem c_X4_takeAhead (l : Launch) (dC : Nat → ClassId) (dI : Nat → Nat → Nat) (G : Nat → ClassId) (sz : Nat) (h0 sa aa : Nat) (w0 : Int64) (f g : Nat → Int64)  : Met l yX4_takeAhead (Cond.code yX4_takeAhead cX4_takeAhead 2 none :: GT) ({ frames := 0, cells := 0, slots := 0, locals := 0 } : Room) (PcW [.ref h0] dC dI G [(h0, .inr (4, [.long w0, .ref sa, .ref aa])), (sa, .inl (G 1, 10, .inr (.inl f))), (aa, .inl (G 1, 10, .inr (.inl g)))] sz) (va_Qv (fun (u : Int64 × (Nat → Int64) × (Nat → Int64)) => match u with | (u0, u1, u2) => True) (fun (u : Int64 × (Nat → Int64) × (Nat → Int64)) (t : State) => match u with | (u0, u1, u2) => va_P (dC, dI) vwCl [(h0, .inr (4, [.long u0, .ref sa, .ref aa])), (sa, .inl (G 1, 10, .inr (.inl u1))), (aa, .inl (G 1, 10, .inr (.inl u2)))] t.heap ∧ va_D (va_A [(h0, .inr (4, [.long w0, .ref sa, .ref aa])), (sa, .inl (G 1, 10, .inr (.inl f))), (aa, .inl (G 1, 10, .inr (.inl g)))] sz) [(h0, .inr (4, [.long u0, .ref sa, .ref aa])), (sa, .inl (G 1, 10, .inr (.inl u1))), (aa, .inl (G 1, 10, .inr (.inl u2)))]) (va_A [(h0, .inr (4, [.long w0, .ref sa, .ref aa])), (sa, .inl (G 1, 10, .inr (.inl f))), (aa, .inl (G 1, 10, .inr (.inl g)))] sz)) 0 0 (va_A [(h0, .inr (4, [.long w0, .ref sa, .ref aa])), (sa, .inl (G 1, 10, .inr (.inl f))), (aa, .inl (G 1, 10, .inr (.inl g)))] sz) := by
  refine Met.ofW (cc := cX4_takeAhead) (maxL := 2) (ret := none) (by decide) rfl ?_
  intro p e s m args below meth c s₁ Bd hml hv
  obtain ⟨rfl, hsz, hP, hK, hD0⟩ := hv
  have hx := Bd.exec
  have hb := Bd.bytes
  have hr := Bd.returns
  have hg : ∀ w ∈ GT, w.before ([.ref h0] : List Value).toArray s = true := fun w h => atoms_spec (ws := Cond.code yX4_takeAhead cX4_takeAhead 2 none :: GT) Bd.pre w (List.mem_cons_of_mem _ h)
  have hown : s.vm.findClass RX4 = some m.cls := findClass_of_methodNamed Bd.named
  have hlocks := Bd.notSynchronized
  subst hsz
  have hD := hD0.self (sz := s.heap.size)
  generalize hAe : va_A [(h0, .inr (4, [.long w0, .ref sa, .ref aa])), (sa, .inl (G 1, 10, .inr (.inl f))), (aa, .inl (G 1, 10, .inr (.inl g)))] s.heap.size = A at hD ⊢
  have hA : ∀ q : Nat, s.heap.size ≤ q → A q := fun q h => by rw [← hAe]; exact Or.inr h
  have hS : va_S A s.heap s.heap [] := va_S.rf
  have hl := lv_entry ([.ref h0]) (n := 2) (Nat.le_of_ble_eq_true rfl)
  rw [lg_entry_eq]
  generalize (lg_sl ([.ref h0]) ++ List.replicate (2 - (lg_sl ([.ref h0])).length) Slot.unset).toArray = ls at hl ⊢
  have hl : lv_has ls 2 [(0, .ref h0)] := hl
  refine lv_iconst (v := 0) hx hb dX4_takeAhead_0 (by decide) ?_
  refine lv_istore_n (lv' := [(1, .int 0), (0, .ref h0)]) hx hb dX4_takeAhead_1 rfl hl (by decide) rfl (fun ls hl => ?_)
  have loop2_4 : ∀ (nf j1 : Nat), 10 + 1 ≤ j1 + nf → j1 ≤ 10 → ∀ (g2 : Nat → Int64) (g3 : Nat → Int64) (H : Heap) (locs : List Loc), va_P (dC, dI) vwCl [(h0, .inr (4, [.long w0, .ref sa, .ref aa])), (sa, .inl (G 1, 10, .inr (.inl g2))), (aa, .inl (G 1, 10, .inr (.inl g3)))] H → va_D A [(h0, .inr (4, [.long w0, .ref sa, .ref aa])), (sa, .inl (G 1, 10, .inr (.inl g2))), (aa, .inl (G 1, 10, .inr (.inl g3)))] → va_S A s.heap H locs → ∀ (ls : Array Slot), lv_has ls 2 [(1, .int (nI j1)), (0, .ref h0)] → W p l e (headSpec (Cond.code yX4_takeAhead cX4_takeAhead 2 none :: GT) ({ frames := 0, cells := 0, slots := 0, locals := 0 } : Room)).room s m ([.ref h0] : List Value).toArray below meth c H locs 0 0 (MQ below (va_Qv (fun (u : Int64 × (Nat → Int64) × (Nat → Int64)) => match u with | (u0, u1, u2) => True) (fun (u : Int64 × (Nat → Int64) × (Nat → Int64)) (t : State) => match u with | (u0, u1, u2) => va_P (dC, dI) vwCl [(h0, .inr (4, [.long u0, .ref sa, .ref aa])), (sa, .inl (G 1, 10, .inr (.inl u1))), (aa, .inl (G 1, 10, .inr (.inl u2)))] t.heap ∧ va_D A [(h0, .inr (4, [.long u0, .ref sa, .ref aa])), (sa, .inl (G 1, 10, .inr (.inl u1))), (aa, .inl (G 1, 10, .inr (.inl u2)))]) A) ([.ref h0] : List Value).toArray s 0 0 A) (F0 m 2 ls []) := by
    intro nf
    induction nf with
    | zero => intro j1 h1 h2; exact absurd h1 (by omega)
    | succ nf ih2_4 =>
      intro j1 hn5 hj6 g2 g3 H locs hP hD hS ls hl
      refine lv_iload_n hx hb dX4_takeAhead_2 rfl (lv_at hl 0 rfl) ?_
      refine lv_bipush (v := 10) hx hb dX4_takeAhead_3 (by decide) ?_
      refine lv_icmp_ge (tgt := 33) hx hb dX4_takeAhead_5 (by decide) (fun c7 => ?_) (fun c7 => ?_)
      · skip
        have n8 : 10 ≤ j1 := by have t := leI c7; rw [nI_toInt (n := j1) (by omega)] at t; have : (10 : Int32).toInt = 10 := (by decide); omega
        have hP9 := hP.sub (ws' := [(h0, .inr (4, [.long w0, .ref sa, .ref aa])), (sa, .inl (G 1, 10, .inr (.inl g2))), (aa, .inl (G 1, 10, .inr (.inl g3)))]) [0, 1, 2] rfl
        have hD9 := hD.sub (ws' := [(h0, .inr (4, [.long w0, .ref sa, .ref aa])), (sa, .inl (G 1, 10, .inr (.inl g2))), (aa, .inl (G 1, 10, .inr (.inl g3)))]) [0, 1, 2] (by decide) rfl
        refine W.widen (k := 0) (n := 0) (by omega) (by omega) ?_
        exact W.vret hx hb hr (fun t ht hW => ⟨⟨(w0, g2, g3), rfl, trivial, ⟨by rw [ht]; exact hP9, hD9⟩⟩, hS.F ht⟩) hS.2.2 dX4_takeAhead_33
      · skip
        have n9 : j1 < 10 := by have t := nleI c7; rw [nI_toInt (n := j1) (by omega)] at t; have : (10 : Int32).toInt = 10 := (by decide); omega
        refine lv_aload_n hx hb dX4_takeAhead_8 rfl (lv_at hl 1 rfl) ?_
        refine va_get (D := (dC, dI)) (ci := 4) (v := .ref aa) (C := RX4) (T := TX4) (N := 3) hx hb hg inG4 hown hK.1 hP 0 rfl rfl 2 (by decide) (hg _ wt_160) (fun _ h9 => h9) rfl dX4_takeAhead_9 ?_
        refine lv_iload_n hx hb dX4_takeAhead_12 rfl (lv_at hl 0 rfl) ?_
        refine lv_aload_n hx hb dX4_takeAhead_13 rfl (lv_at hl 1 rfl) ?_
        refine va_get (D := (dC, dI)) (ci := 4) (v := .ref sa) (C := RX4) (T := TX4) (N := 3) hx hb hg inG4 hown hK.1 hP 0 rfl rfl 1 (by decide) (hg _ wt_158) (fun _ h9 => h9) rfl dX4_takeAhead_14 ?_
        refine lv_iload_n hx hb dX4_takeAhead_17 rfl (lv_at hl 0 rfl) ?_
        refine va_lald hx hb hK.1 hP 1 1 rfl rfl (vp_in_nI (by have t_hj6 := hj6; have t_n9 := n9; have t_n0 : (nI j1).toInt = (j1 : Int) := nI_toInt (by omega); omega) (by decide)) dX4_takeAhead_18 ?_
        refine lv_cgl (y := g2 j1) (by rw [nI_clamp (by omega)]) ?_
        refine va_last hx hb hK.1 hP hD hS 2 1 rfl rfl (vp_in_nI (by have t_hj6 := hj6; have t_n9 := n9; have t_n0 : (nI j1).toInt = (j1 : Int) := nI_toInt (by omega); omega) (by decide)) dX4_takeAhead_19 (fun H locs hP hD hS => ?_)
        rw [nI_clamp (by omega)] at hP hD
        have hP : va_P (dC, dI) vwCl [(h0, .inr (4, [.long w0, .ref sa, .ref aa])), (sa, .inl (G 1, 10, .inr (.inl g2))), (aa, .inl (G 1, 10, .inr (.inl (vp_updL g3 j1 (g2 j1)))))] H := hP
        have hD : va_D A [(h0, .inr (4, [.long w0, .ref sa, .ref aa])), (sa, .inl (G 1, 10, .inr (.inl g2))), (aa, .inl (G 1, 10, .inr (.inl (vp_updL g3 j1 (g2 j1)))))] := hD
        refine lv_aload_n hx hb dX4_takeAhead_20 rfl (lv_at hl 1 rfl) ?_
        refine va_get (D := (dC, dI)) (ci := 4) (v := .ref sa) (C := RX4) (T := TX4) (N := 3) hx hb hg inG4 hown hK.1 hP 0 rfl rfl 1 (by decide) (hg _ wt_158) (fun _ h9 => h9) rfl dX4_takeAhead_21 ?_
        refine lv_iload_n hx hb dX4_takeAhead_24 rfl (lv_at hl 0 rfl) ?_
        refine lv_lconst (v := 0) hx hb dX4_takeAhead_25 (by decide) ?_
        refine va_last hx hb hK.1 hP hD hS 1 1 rfl rfl (vp_in_nI (by have t_hj6 := hj6; have t_n9 := n9; have t_n0 : (nI j1).toInt = (j1 : Int) := nI_toInt (by omega); omega) (by decide)) dX4_takeAhead_26 (fun H locs hP hD hS => ?_)
        rw [nI_clamp (by omega)] at hP hD
        have hP : va_P (dC, dI) vwCl [(h0, .inr (4, [.long w0, .ref sa, .ref aa])), (sa, .inl (G 1, 10, .inr (.inl (vp_updL g2 j1 0)))), (aa, .inl (G 1, 10, .inr (.inl (vp_updL g3 j1 (g2 j1)))))] H := hP
        have hD : va_D A [(h0, .inr (4, [.long w0, .ref sa, .ref aa])), (sa, .inl (G 1, 10, .inr (.inl (vp_updL g2 j1 0)))), (aa, .inl (G 1, 10, .inr (.inl (vp_updL g3 j1 (g2 j1)))))] := hD
        refine lv_iinc (v := nI (j1 + 1)) (lv' := [(1, .int (nI (j1 + 1))), (0, .ref h0)]) hx hb dX4_takeAhead_27 hl (k := 0) rfl (by rw [show Int32.ofInt 1 = nI 1 from by decide]; exact nI_add _ _) (by decide) rfl (fun ls hl => ?_)
        refine lv_goto (tgt := 2) hx hb dX4_takeAhead_30 (by decide) ?_
        exact ih2_4 (j1 + 1) (by omega) (by omega) (vp_updL g2 j1 0) (vp_updL g3 j1 (g2 j1)) _ _ hP hD hS ls (lv_sub hl [0, 1] rfl)
  exact loop2_4 (10 + 1) 0 (by omega) (by omega) f g _ _ hP hD hS ls (lv_sub hl [0, 1] rfl)

set_option maxHeartbeats 1000000 in
set_option maxRecDepth 100000 in
theorem c_X4_pass (l : Launch) (dC : Nat → ClassId) (dI : Nat → Nat → Nat) (G : Nat → ClassId) (sz : Nat) (h0 sa aa : Nat) (i : Int32) (w0 : Int64) (f g : Nat → Int64)  : Met l yX4_pass (Cond.code yX4_pass cX4_pass 3 none :: GT) ({ frames := 1, cells := 0, slots := 0, locals := 21 } : Room) (PcW [.ref h0, .int i] dC dI G [(h0, .inr (4, [.long w0, .ref sa, .ref aa])), (sa, .inl (G 1, 10, .inr (.inl f))), (aa, .inl (G 1, 10, .inr (.inl g)))] sz) (va_Qv (fun (u : Int64 × (Nat → Int64) × (Nat → Int64)) => match u with | (u0, u1, u2) => True) (fun (u : Int64 × (Nat → Int64) × (Nat → Int64)) (t : State) => match u with | (u0, u1, u2) => va_P (dC, dI) vwCl [(h0, .inr (4, [.long u0, .ref sa, .ref aa])), (sa, .inl (G 1, 10, .inr (.inl u1))), (aa, .inl (G 1, 10, .inr (.inl u2)))] t.heap ∧ va_D (va_A [(h0, .inr (4, [.long w0, .ref sa, .ref aa])), (sa, .inl (G 1, 10, .inr (.inl f))), (aa, .inl (G 1, 10, .inr (.inl g)))] sz) [(h0, .inr (4, [.long u0, .ref sa, .ref aa])), (sa, .inl (G 1, 10, .inr (.inl u1))), (aa, .inl (G 1, 10, .inr (.inl u2)))]) (va_A [(h0, .inr (4, [.long w0, .ref sa, .ref aa])), (sa, .inl (G 1, 10, .inr (.inl f))), (aa, .inl (G 1, 10, .inr (.inl g)))] sz)) 0 0 (va_A [(h0, .inr (4, [.long w0, .ref sa, .ref aa])), (sa, .inl (G 1, 10, .inr (.inl f))), (aa, .inl (G 1, 10, .inr (.inl g)))] sz) := by
  refine Met.ofW (cc := cX4_pass) (maxL := 3) (ret := none) (by decide) rfl ?_
  intro p e s m args below meth c s₁ Bd hml hv
  obtain ⟨rfl, hsz, hP, hK, hD0⟩ := hv
  have hx := Bd.exec
  have hb := Bd.bytes
  have hr := Bd.returns
  have hg : ∀ w ∈ GT, w.before ([.ref h0, .int i] : List Value).toArray s = true := fun w h => atoms_spec (ws := Cond.code yX4_pass cX4_pass 3 none :: GT) Bd.pre w (List.mem_cons_of_mem _ h)
  have hown : s.vm.findClass RX4 = some m.cls := findClass_of_methodNamed Bd.named
  have hlocks := Bd.notSynchronized
  subst hsz
  have hD := hD0.self (sz := s.heap.size)
  generalize hAe : va_A [(h0, .inr (4, [.long w0, .ref sa, .ref aa])), (sa, .inl (G 1, 10, .inr (.inl f))), (aa, .inl (G 1, 10, .inr (.inl g)))] s.heap.size = A at hD ⊢
  have hA : ∀ q : Nat, s.heap.size ≤ q → A q := fun q h => by rw [← hAe]; exact Or.inr h
  have hS : va_S A s.heap s.heap [] := va_S.rf
  have hl := lv_entry ([.ref h0, .int i]) (n := 3) (Nat.le_of_ble_eq_true rfl)
  rw [lg_entry_eq]
  generalize (lg_sl ([.ref h0, .int i]) ++ List.replicate (3 - (lg_sl ([.ref h0, .int i])).length) Slot.unset).toArray = ls at hl ⊢
  have hl : lv_has ls 3 [(0, .ref h0), (1, .int i)] := hl
  refine lv_aload_n hx hb dX4_pass_0 rfl (lv_at hl 0 rfl) ?_
  have hPc := hP.sub (ws' := [(h0, .inr (4, [.long w0, .ref sa, .ref aa])), (sa, .inl (G 1, 10, .inr (.inl f))), (aa, .inl (G 1, 10, .inr (.inl g)))]) [0, 1, 2] rfl
  have hDc := hD.sub (ws' := [(h0, .inr (4, [.long w0, .ref sa, .ref aa])), (sa, .inl (G 1, 10, .inr (.inl f))), (aa, .inl (G 1, 10, .inr (.inl g)))]) [0, 1, 2] (by decide) rfl
  have hFc := va_free (wc := [(h0, .inr (4, [.long w0, .ref sa, .ref aa])), (sa, .inl (G 1, 10, .inr (.inl f))), (aa, .inl (G 1, 10, .inr (.inl g)))]) hD hS hA [0, 1, 2] rfl
  refine va_callv (va_runV (As := []) (rest := []) ⟨hx, hb, hml, hown, hg⟩ (c_X4_takeAhead l dC dI G _ h0 sa aa w0 f g ) (kwV hg mfX4_takeAhead wt_620 ⟨Nat.le_of_ble_eq_true rfl, Nat.le_of_ble_eq_true rfl⟩) (preVW hK hPc hDc (ci := 4) rfl rfl) rfl rfl hl.1 rfl (lv_room (Nat.le_of_ble_eq_true rfl)) dX4_pass_1 ⟨Nat.le_of_ble_eq_true rfl, Nat.le_of_ble_eq_true rfl⟩) hS (fun q _ h => hFc q h) hFc (fun ur1 t H1 locs ht hvm w2 hB hz1 hk1 hS => ?_)
  obtain ⟨u3, u4, u5⟩ := ur1
  obtain ⟨hP1, hD1⟩ := hB
  rw [ht] at hP1
  obtain ⟨hP, hD⟩ := va_join (wr := []) (w1 := [(h0, .inr (4, [.long u3, .ref sa, .ref aa])), (sa, .inl (G 1, 10, .inr (.inl u4))), (aa, .inl (G 1, 10, .inr (.inl u5)))]) hP hD [0, 1, 2] [] rfl rfl (by decide) (by decide) hk1 hFc hP1 hD1
  generalize H1 = H at hP hS ⊢
  have hP : va_P (dC, dI) vwCl [(h0, .inr (4, [.long u3, .ref sa, .ref aa])), (sa, .inl (G 1, 10, .inr (.inl u4))), (aa, .inl (G 1, 10, .inr (.inl u5)))] H := hP
  have hD : va_D A [(h0, .inr (4, [.long u3, .ref sa, .ref aa])), (sa, .inl (G 1, 10, .inr (.inl u4))), (aa, .inl (G 1, 10, .inr (.inl u5)))] := hD
  refine lv_aload_n hx hb dX4_pass_4 rfl (lv_at hl 0 rfl) ?_
  refine lv_dup hx hb dX4_pass_5 rfl ?_
  refine va_get (D := (dC, dI)) (ci := 4) (v := .long u3) (C := RX4) (T := TX4) (N := 3) hx hb hg inG4 hown hK.1 hP 0 rfl rfl 0 (by decide) (hg _ wt_156) (fun _ h9 => h9) rfl dX4_pass_6 ?_
  refine lv_ldc2 (v := 20) hx hb hown (hg _ wt_634) dX4_pass_9 ?_
  refine lv_lmul hx hb dX4_pass_12 ?_
  refine va_put (D := (dC, dI)) (ci := 4) (v := .long (u3 * 20)) (ty := .long) (C := RX4) (T := TX4) (N := 3) hx hb hg inG4 tyX4 tyX4_ok nmX4 hown hK.1 hP hD hS 0 rfl rfl 0 (by decide) (hg _ wt_156) (fun _ h9 => h9) rfl (by decide +kernel) rfl rfl (Nat.le_of_ble_eq_true rfl) dX4_pass_13 (fun H locs hP hD hS => ?_)
  have hP : va_P (dC, dI) vwCl [(h0, .inr (4, [.long (u3 * 20), .ref sa, .ref aa])), (sa, .inl (G 1, 10, .inr (.inl u4))), (aa, .inl (G 1, 10, .inr (.inl u5)))] H := hP
  have hD : va_D A [(h0, .inr (4, [.long (u3 * 20), .ref sa, .ref aa])), (sa, .inl (G 1, 10, .inr (.inl u4))), (aa, .inl (G 1, 10, .inr (.inl u5)))] := hD
  refine lv_aload_n hx hb dX4_pass_16 rfl (lv_at hl 0 rfl) ?_
  refine va_get (D := (dC, dI)) (ci := 4) (v := .ref sa) (C := RX4) (T := TX4) (N := 3) hx hb hg inG4 hown hK.1 hP 0 rfl rfl 1 (by decide) (hg _ wt_158) (fun _ h9 => h9) rfl dX4_pass_17 ?_
  refine lv_iconst (v := 0) hx hb dX4_pass_20 (by decide) ?_
  refine lv_aload_n hx hb dX4_pass_21 rfl (lv_at hl 0 rfl) ?_
  refine va_get (D := (dC, dI)) (ci := 4) (v := .ref aa) (C := RX4) (T := TX4) (N := 3) hx hb hg inG4 hown hK.1 hP 0 rfl rfl 2 (by decide) (hg _ wt_160) (fun _ h9 => h9) rfl dX4_pass_22 ?_
  refine lv_iconst (v := 0) hx hb dX4_pass_25 (by decide) ?_
  refine va_lald hx hb hK.1 hP 2 1 rfl rfl (vp_in_iff.mpr ⟨by decide, by decide⟩) dX4_pass_26 ?_
  refine lv_cgl (y := u5 0) (by rfl) ?_
  refine lv_ldc2 (v := 20) hx hb hown (hg _ wt_634) dX4_pass_27 ?_
  refine lv_lmul hx hb dX4_pass_30 ?_
  refine va_last hx hb hK.1 hP hD hS 1 1 rfl rfl (vp_in_iff.mpr ⟨by decide, by decide⟩) dX4_pass_31 (fun H locs hP hD hS => ?_)
  have hP : va_P (dC, dI) vwCl [(h0, .inr (4, [.long (u3 * 20), .ref sa, .ref aa])), (sa, .inl (G 1, 10, .inr (.inl (vp_updL u4 0 ((u5 0) * 20))))), (aa, .inl (G 1, 10, .inr (.inl u5)))] H := hP
  have hD : va_D A [(h0, .inr (4, [.long (u3 * 20), .ref sa, .ref aa])), (sa, .inl (G 1, 10, .inr (.inl (vp_updL u4 0 ((u5 0) * 20))))), (aa, .inl (G 1, 10, .inr (.inl u5)))] := hD
  refine lv_iconst (v := 1) hx hb dX4_pass_32 (by decide) ?_
  refine lv_istore_n (lv' := [(2, .int 1), (0, .ref h0), (1, .int i)]) hx hb dX4_pass_33 rfl hl (by decide) rfl (fun ls hl => ?_)
  have loop34_8 : ∀ (nf j6 : Nat), 10 + 1 ≤ j6 + nf → j6 ≤ 10 → 1 ≤ j6 → ∀ (g7 : Nat → Int64) (H : Heap) (locs : List Loc), va_P (dC, dI) vwCl [(h0, .inr (4, [.long (u3 * 20), .ref sa, .ref aa])), (sa, .inl (G 1, 10, .inr (.inl g7))), (aa, .inl (G 1, 10, .inr (.inl u5)))] H → va_D A [(h0, .inr (4, [.long (u3 * 20), .ref sa, .ref aa])), (sa, .inl (G 1, 10, .inr (.inl g7))), (aa, .inl (G 1, 10, .inr (.inl u5)))] → va_S A s.heap H locs → ∀ (ls : Array Slot), lv_has ls 3 [(2, .int (nI j6)), (0, .ref h0), (1, .int i)] → W p l e (headSpec (Cond.code yX4_pass cX4_pass 3 none :: GT) ({ frames := 1, cells := 0, slots := 0, locals := 21 } : Room)).room s m ([.ref h0, .int i] : List Value).toArray below meth c H locs 0 0 (MQ below (va_Qv (fun (u : Int64 × (Nat → Int64) × (Nat → Int64)) => match u with | (u0, u1, u2) => True) (fun (u : Int64 × (Nat → Int64) × (Nat → Int64)) (t : State) => match u with | (u0, u1, u2) => va_P (dC, dI) vwCl [(h0, .inr (4, [.long u0, .ref sa, .ref aa])), (sa, .inl (G 1, 10, .inr (.inl u1))), (aa, .inl (G 1, 10, .inr (.inl u2)))] t.heap ∧ va_D A [(h0, .inr (4, [.long u0, .ref sa, .ref aa])), (sa, .inl (G 1, 10, .inr (.inl u1))), (aa, .inl (G 1, 10, .inr (.inl u2)))]) A) ([.ref h0, .int i] : List Value).toArray s 0 0 A) (F0 m 34 ls []) := by
    intro nf
    induction nf with
    | zero => intro j6 h1 h2; exact absurd h1 (by omega)
    | succ nf ih34_8 =>
      intro j6 hn9 hj10 hlo_j6 g7 H locs hP hD hS ls hl
      refine lv_iload_n hx hb dX4_pass_34 rfl (lv_at hl 0 rfl) ?_
      refine lv_bipush (v := 10) hx hb dX4_pass_35 (by decide) ?_
      refine lv_icmp_ge (tgt := 94) hx hb dX4_pass_37 (by decide) (fun c11 => ?_) (fun c11 => ?_)
      · skip
        have n12 : 10 ≤ j6 := by have t := leI c11; rw [nI_toInt (n := j6) (by omega)] at t; have : (10 : Int32).toInt = 10 := (by decide); omega
        have hP9 := hP.sub (ws' := [(h0, .inr (4, [.long (u3 * 20), .ref sa, .ref aa])), (sa, .inl (G 1, 10, .inr (.inl g7))), (aa, .inl (G 1, 10, .inr (.inl u5)))]) [0, 1, 2] rfl
        have hD9 := hD.sub (ws' := [(h0, .inr (4, [.long (u3 * 20), .ref sa, .ref aa])), (sa, .inl (G 1, 10, .inr (.inl g7))), (aa, .inl (G 1, 10, .inr (.inl u5)))]) [0, 1, 2] (by decide) rfl
        refine W.widen (k := 0) (n := 0) (by omega) (by omega) ?_
        exact W.vret hx hb hr (fun t ht hW => ⟨⟨((u3 * 20), g7, u5), rfl, trivial, ⟨by rw [ht]; exact hP9, hD9⟩⟩, hS.F ht⟩) hS.2.2 dX4_pass_94
      · skip
        have n13 : j6 < 10 := by have t := nleI c11; rw [nI_toInt (n := j6) (by omega)] at t; have : (10 : Int32).toInt = 10 := (by decide); omega
        refine lv_aload_n hx hb dX4_pass_40 rfl (lv_at hl 1 rfl) ?_
        refine va_get (D := (dC, dI)) (ci := 4) (v := .ref sa) (C := RX4) (T := TX4) (N := 3) hx hb hg inG4 hown hK.1 hP 0 rfl rfl 1 (by decide) (hg _ wt_158) (fun _ h9 => h9) rfl dX4_pass_41 ?_
        refine lv_iload_n hx hb dX4_pass_44 rfl (lv_at hl 0 rfl) ?_
        refine lv_iconst (v := 1) hx hb dX4_pass_45 (by decide) ?_
        refine lv_isub hx hb dX4_pass_46 ?_
        refine lv_cg (y := nI (j6 - 1)) (by rw [show (1 : Int32) = nI 1 from rfl]; exact pk_sub (by have t_hj10 := hj10; have t_hlo_j6 := hlo_j6; have t_n13 := n13; have t_n0 : (nI j6).toInt = (j6 : Int) := nI_toInt (by omega); omega)) ?_
        refine lv_dup2_11 hx hb dX4_pass_47 rfl rfl ?_
        refine va_lald hx hb hK.1 hP 1 1 rfl rfl (vp_in_nI (by have t_hj10 := hj10; have t_hlo_j6 := hlo_j6; have t_n13 := n13; have t_n0 : (nI j6).toInt = (j6 : Int) := nI_toInt (by omega); omega) (by decide)) dX4_pass_48 ?_
        refine lv_cgl (y := g7 (j6 - 1)) (by rw [nI_clamp (by omega)]) ?_
        refine lv_aload_n hx hb dX4_pass_49 rfl (lv_at hl 1 rfl) ?_
        refine va_get (D := (dC, dI)) (ci := 4) (v := .ref aa) (C := RX4) (T := TX4) (N := 3) hx hb hg inG4 hown hK.1 hP 0 rfl rfl 2 (by decide) (hg _ wt_160) (fun _ h9 => h9) rfl dX4_pass_50 ?_
        refine lv_iload_n hx hb dX4_pass_53 rfl (lv_at hl 0 rfl) ?_
        refine va_lald hx hb hK.1 hP 2 1 rfl rfl (vp_in_nI (by have t_hj10 := hj10; have t_hlo_j6 := hlo_j6; have t_n13 := n13; have t_n0 : (nI j6).toInt = (j6 : Int) := nI_toInt (by omega); omega) (by decide)) dX4_pass_54 ?_
        refine lv_cgl (y := u5 j6) (by rw [nI_clamp (by omega)]) ?_
        refine lv_iload_n hx hb dX4_pass_55 rfl (lv_at hl 2 rfl) ?_
        refine lv_i2l (v := i.toInt64) hx hb dX4_pass_56 rfl ?_
        refine lv_lmul hx hb dX4_pass_57 ?_
        refine lv_ladd hx hb dX4_pass_58 ?_
        refine va_last hx hb hK.1 hP hD hS 1 1 rfl rfl (vp_in_nI (by have t_hj10 := hj10; have t_hlo_j6 := hlo_j6; have t_n13 := n13; have t_n0 : (nI j6).toInt = (j6 : Int) := nI_toInt (by omega); omega) (by decide)) dX4_pass_59 (fun H locs hP hD hS => ?_)
        rw [nI_clamp (by omega)] at hP hD
        have hP : va_P (dC, dI) vwCl [(h0, .inr (4, [.long (u3 * 20), .ref sa, .ref aa])), (sa, .inl (G 1, 10, .inr (.inl (vp_updL g7 (j6 - 1) ((g7 (j6 - 1)) + ((u5 j6) * i.toInt64)))))), (aa, .inl (G 1, 10, .inr (.inl u5)))] H := hP
        have hD : va_D A [(h0, .inr (4, [.long (u3 * 20), .ref sa, .ref aa])), (sa, .inl (G 1, 10, .inr (.inl (vp_updL g7 (j6 - 1) ((g7 (j6 - 1)) + ((u5 j6) * i.toInt64)))))), (aa, .inl (G 1, 10, .inr (.inl u5)))] := hD
        refine lv_aload_n hx hb dX4_pass_60 rfl (lv_at hl 1 rfl) ?_
        refine va_get (D := (dC, dI)) (ci := 4) (v := .ref sa) (C := RX4) (T := TX4) (N := 3) hx hb hg inG4 hown hK.1 hP 0 rfl rfl 1 (by decide) (hg _ wt_158) (fun _ h9 => h9) rfl dX4_pass_61 ?_
        refine lv_bipush (v := 9) hx hb dX4_pass_64 (by decide) ?_
        refine lv_iload_n hx hb dX4_pass_66 rfl (lv_at hl 0 rfl) ?_
        refine lv_iconst (v := 1) hx hb dX4_pass_67 (by decide) ?_
        refine lv_iadd hx hb dX4_pass_68 ?_
        refine lv_cg (y := nI (j6 + 1)) (by rw [show (1 : Int32) = nI 1 from rfl]; exact nI_add _ _) ?_
        have hPc := hP.sub (ws' := []) [] rfl
        refine va_calli (va_runS (As := [.int 9, .int (nI (j6 + 1))]) (rest := [.ref sa]) ⟨hx, hb, hml, hown, hg⟩ (c_J9_min l dC dI G _ 9 (nI (j6 + 1)) ) (kwS hg mfJ9_min_7cf53 wt_624 ⟨Nat.le_of_ble_eq_true rfl, Nat.le_of_ble_eq_true rfl⟩) (preSR hK hPc) rfl rfl hl.1 rfl (lv_room (Nat.le_of_ble_eq_true rfl)) dX4_pass_69 ⟨Nat.le_of_ble_eq_true rfl, Nat.le_of_ble_eq_true rfl⟩) hS (fun q h1 h2 => absurd h2 (Nat.not_le.mpr h1)) (fun q h => hA q (Nat.le_trans hS.1 h)) (fun r14 ur14 t H1 locs ht hvm w15 hB hz1 hk1 hS => ?_)
        have hP := keepR hP hk1
        obtain ⟨w15, w15x⟩ := w15
        have w15 : r14 = nI (min 9 (j6 + 1)) := w15.trans (mn_nI (a := 9) (b := (j6 + 1)) (by omega) (by omega))
        subst w15
        refine lv_dup2_11 hx hb dX4_pass_72 rfl rfl ?_
        refine va_lald hx hb hK.1 hP 1 1 rfl rfl (vp_in_nI (by have t_hj10 := hj10; have t_hlo_j6 := hlo_j6; have t_n13 := n13; have t_n0 : (nI j6).toInt = (j6 : Int) := nI_toInt (by omega); omega) (by decide)) dX4_pass_73 ?_
        refine lv_cgl (y := (vp_updL g7 (j6 - 1) ((g7 (j6 - 1)) + ((u5 j6) * i.toInt64))) (min 9 (j6 + 1))) (by rw [nI_clamp (by omega)]) ?_
        refine lv_aload_n hx hb dX4_pass_74 rfl (lv_at hl 1 rfl) ?_
        refine va_get (D := (dC, dI)) (ci := 4) (v := .ref aa) (C := RX4) (T := TX4) (N := 3) hx hb hg inG4 hown hK.1 hP 0 rfl rfl 2 (by decide) (hg _ wt_160) (fun _ h9 => h9) rfl dX4_pass_75 ?_
        refine lv_iload_n hx hb dX4_pass_78 rfl (lv_at hl 0 rfl) ?_
        refine va_lald hx hb hK.1 hP 2 1 rfl rfl (vp_in_nI (by have t_hj10 := hj10; have t_hlo_j6 := hlo_j6; have t_n13 := n13; have t_n0 : (nI j6).toInt = (j6 : Int) := nI_toInt (by omega); omega) (by decide)) dX4_pass_79 ?_
        refine lv_cgl (y := u5 j6) (by rw [nI_clamp (by omega)]) ?_
        refine lv_bipush (v := 20) hx hb dX4_pass_80 (by decide) ?_
        refine lv_iload_n hx hb dX4_pass_82 rfl (lv_at hl 2 rfl) ?_
        refine lv_isub hx hb dX4_pass_83 ?_
        refine lv_i2l (v := (20 - i).toInt64) hx hb dX4_pass_84 rfl ?_
        refine lv_lmul hx hb dX4_pass_85 ?_
        refine lv_ladd hx hb dX4_pass_86 ?_
        refine va_last hx hb hK.1 hP hD hS 1 1 rfl rfl (vp_in_nI (by have t_hj10 := hj10; have t_hlo_j6 := hlo_j6; have t_n13 := n13; have t_n0 : (nI j6).toInt = (j6 : Int) := nI_toInt (by omega); omega) (by decide)) dX4_pass_87 (fun H locs hP hD hS => ?_)
        rw [nI_clamp (by omega)] at hP hD
        have hP : va_P (dC, dI) vwCl [(h0, .inr (4, [.long (u3 * 20), .ref sa, .ref aa])), (sa, .inl (G 1, 10, .inr (.inl (vp_updL (vp_updL g7 (j6 - 1) ((g7 (j6 - 1)) + ((u5 j6) * i.toInt64))) (min 9 (j6 + 1)) (((vp_updL g7 (j6 - 1) ((g7 (j6 - 1)) + ((u5 j6) * i.toInt64))) (min 9 (j6 + 1))) + ((u5 j6) * ((20 - i).toInt64))))))), (aa, .inl (G 1, 10, .inr (.inl u5)))] H := hP
        have hD : va_D A [(h0, .inr (4, [.long (u3 * 20), .ref sa, .ref aa])), (sa, .inl (G 1, 10, .inr (.inl (vp_updL (vp_updL g7 (j6 - 1) ((g7 (j6 - 1)) + ((u5 j6) * i.toInt64))) (min 9 (j6 + 1)) (((vp_updL g7 (j6 - 1) ((g7 (j6 - 1)) + ((u5 j6) * i.toInt64))) (min 9 (j6 + 1))) + ((u5 j6) * ((20 - i).toInt64))))))), (aa, .inl (G 1, 10, .inr (.inl u5)))] := hD
        refine lv_iinc (v := nI (j6 + 1)) (lv' := [(2, .int (nI (j6 + 1))), (0, .ref h0), (1, .int i)]) hx hb dX4_pass_88 hl (k := 0) rfl (by rw [show Int32.ofInt 1 = nI 1 from by decide]; exact nI_add _ _) (by decide) rfl (fun ls hl => ?_)
        refine lv_goto (tgt := 34) hx hb dX4_pass_91 (by decide) ?_
        exact ih34_8 (j6 + 1) (by omega) (by omega) (by omega) (vp_updL (vp_updL g7 (j6 - 1) ((g7 (j6 - 1)) + ((u5 j6) * i.toInt64))) (min 9 (j6 + 1)) (((vp_updL g7 (j6 - 1) ((g7 (j6 - 1)) + ((u5 j6) * i.toInt64))) (min 9 (j6 + 1))) + ((u5 j6) * ((20 - i).toInt64)))) _ _ hP hD hS ls (lv_sub hl [0, 1, 2] rfl)
  exact loop34_8 (10 + 1) 1 (by omega) (by omega) (by omega) (vp_updL u4 0 ((u5 0) * 20)) _ _ hP hD hS ls (lv_sub hl [0, 1, 2] rfl)

set_option maxHeartbeats 1000000 in
set_option maxRecDepth 100000 in
theorem c_X4_deepen (l : Launch) (dC : Nat → ClassId) (dI : Nat → Nat → Nat) (G : Nat → ClassId) (sz : Nat) (h0 sa aa : Nat) (w0 : Int64) (f g : Nat → Int64)  : Met l yX4_deepen (Cond.code yX4_deepen cX4_deepen 2 none :: GT) ({ frames := 1, cells := 0, slots := 0, locals := 21 } : Room) (PcW [.ref h0] dC dI G [(h0, .inr (4, [.long w0, .ref sa, .ref aa])), (sa, .inl (G 1, 10, .inr (.inl f))), (aa, .inl (G 1, 10, .inr (.inl g)))] sz) (va_Qv (fun (u : Int64 × (Nat → Int64) × (Nat → Int64)) => match u with | (u0, u1, u2) => True) (fun (u : Int64 × (Nat → Int64) × (Nat → Int64)) (t : State) => match u with | (u0, u1, u2) => va_P (dC, dI) vwCl [(h0, .inr (4, [.long u0, .ref sa, .ref aa])), (sa, .inl (G 1, 10, .inr (.inl u1))), (aa, .inl (G 1, 10, .inr (.inl u2)))] t.heap ∧ va_D (va_A [(h0, .inr (4, [.long w0, .ref sa, .ref aa])), (sa, .inl (G 1, 10, .inr (.inl f))), (aa, .inl (G 1, 10, .inr (.inl g)))] sz) [(h0, .inr (4, [.long u0, .ref sa, .ref aa])), (sa, .inl (G 1, 10, .inr (.inl u1))), (aa, .inl (G 1, 10, .inr (.inl u2)))]) (va_A [(h0, .inr (4, [.long w0, .ref sa, .ref aa])), (sa, .inl (G 1, 10, .inr (.inl f))), (aa, .inl (G 1, 10, .inr (.inl g)))] sz)) 0 0 (va_A [(h0, .inr (4, [.long w0, .ref sa, .ref aa])), (sa, .inl (G 1, 10, .inr (.inl f))), (aa, .inl (G 1, 10, .inr (.inl g)))] sz) := by
  refine Met.ofW (cc := cX4_deepen) (maxL := 2) (ret := none) (by decide) rfl ?_
  intro p e s m args below meth c s₁ Bd hml hv
  obtain ⟨rfl, hsz, hP, hK, hD0⟩ := hv
  have hx := Bd.exec
  have hb := Bd.bytes
  have hr := Bd.returns
  have hg : ∀ w ∈ GT, w.before ([.ref h0] : List Value).toArray s = true := fun w h => atoms_spec (ws := Cond.code yX4_deepen cX4_deepen 2 none :: GT) Bd.pre w (List.mem_cons_of_mem _ h)
  have hown : s.vm.findClass RX4 = some m.cls := findClass_of_methodNamed Bd.named
  have hlocks := Bd.notSynchronized
  subst hsz
  have hD := hD0.self (sz := s.heap.size)
  generalize hAe : va_A [(h0, .inr (4, [.long w0, .ref sa, .ref aa])), (sa, .inl (G 1, 10, .inr (.inl f))), (aa, .inl (G 1, 10, .inr (.inl g)))] s.heap.size = A at hD ⊢
  have hA : ∀ q : Nat, s.heap.size ≤ q → A q := fun q h => by rw [← hAe]; exact Or.inr h
  have hS : va_S A s.heap s.heap [] := va_S.rf
  have hl := lv_entry ([.ref h0]) (n := 2) (Nat.le_of_ble_eq_true rfl)
  rw [lg_entry_eq]
  generalize (lg_sl ([.ref h0]) ++ List.replicate (2 - (lg_sl ([.ref h0])).length) Slot.unset).toArray = ls at hl ⊢
  have hl : lv_has ls 2 [(0, .ref h0)] := hl
  refine lv_aload_n hx hb dX4_deepen_0 rfl (lv_at hl 0 rfl) ?_
  have hPc := hP.sub (ws' := [(h0, .inr (4, [.long w0, .ref sa, .ref aa])), (sa, .inl (G 1, 10, .inr (.inl f))), (aa, .inl (G 1, 10, .inr (.inl g)))]) [0, 1, 2] rfl
  have hDc := hD.sub (ws' := [(h0, .inr (4, [.long w0, .ref sa, .ref aa])), (sa, .inl (G 1, 10, .inr (.inl f))), (aa, .inl (G 1, 10, .inr (.inl g)))]) [0, 1, 2] (by decide) rfl
  have hFc := va_free (wc := [(h0, .inr (4, [.long w0, .ref sa, .ref aa])), (sa, .inl (G 1, 10, .inr (.inl f))), (aa, .inl (G 1, 10, .inr (.inl g)))]) hD hS hA [0, 1, 2] rfl
  refine va_callv (va_runV (As := []) (rest := []) ⟨hx, hb, hml, hown, hg⟩ (c_X4_takeAhead l dC dI G _ h0 sa aa w0 f g ) (kwV hg mfX4_takeAhead wt_620 ⟨Nat.le_of_ble_eq_true rfl, Nat.le_of_ble_eq_true rfl⟩) (preVW hK hPc hDc (ci := 4) rfl rfl) rfl rfl hl.1 rfl (lv_room (Nat.le_of_ble_eq_true rfl)) dX4_deepen_1 ⟨Nat.le_of_ble_eq_true rfl, Nat.le_of_ble_eq_true rfl⟩) hS (fun q _ h => hFc q h) hFc (fun ur1 t H1 locs ht hvm w2 hB hz1 hk1 hS => ?_)
  obtain ⟨u3, u4, u5⟩ := ur1
  obtain ⟨hP1, hD1⟩ := hB
  rw [ht] at hP1
  obtain ⟨hP, hD⟩ := va_join (wr := []) (w1 := [(h0, .inr (4, [.long u3, .ref sa, .ref aa])), (sa, .inl (G 1, 10, .inr (.inl u4))), (aa, .inl (G 1, 10, .inr (.inl u5)))]) hP hD [0, 1, 2] [] rfl rfl (by decide) (by decide) hk1 hFc hP1 hD1
  generalize H1 = H at hP hS ⊢
  have hP : va_P (dC, dI) vwCl [(h0, .inr (4, [.long u3, .ref sa, .ref aa])), (sa, .inl (G 1, 10, .inr (.inl u4))), (aa, .inl (G 1, 10, .inr (.inl u5)))] H := hP
  have hD : va_D A [(h0, .inr (4, [.long u3, .ref sa, .ref aa])), (sa, .inl (G 1, 10, .inr (.inl u4))), (aa, .inl (G 1, 10, .inr (.inl u5)))] := hD
  refine lv_aload_n hx hb dX4_deepen_4 rfl (lv_at hl 0 rfl) ?_
  refine va_get (D := (dC, dI)) (ci := 4) (v := .ref sa) (C := RX4) (T := TX4) (N := 3) hx hb hg inG4 hown hK.1 hP 0 rfl rfl 1 (by decide) (hg _ wt_158) (fun _ h9 => h9) rfl dX4_deepen_5 ?_
  refine lv_iconst (v := 0) hx hb dX4_deepen_8 (by decide) ?_
  refine lv_aload_n hx hb dX4_deepen_9 rfl (lv_at hl 0 rfl) ?_
  refine va_get (D := (dC, dI)) (ci := 4) (v := .ref aa) (C := RX4) (T := TX4) (N := 3) hx hb hg inG4 hown hK.1 hP 0 rfl rfl 2 (by decide) (hg _ wt_160) (fun _ h9 => h9) rfl dX4_deepen_10 ?_
  refine lv_iconst (v := 0) hx hb dX4_deepen_13 (by decide) ?_
  refine va_lald hx hb hK.1 hP 2 1 rfl rfl (vp_in_iff.mpr ⟨by decide, by decide⟩) dX4_deepen_14 ?_
  refine lv_cgl (y := u5 0) (by rfl) ?_
  refine va_last hx hb hK.1 hP hD hS 1 1 rfl rfl (vp_in_iff.mpr ⟨by decide, by decide⟩) dX4_deepen_15 (fun H locs hP hD hS => ?_)
  have hP : va_P (dC, dI) vwCl [(h0, .inr (4, [.long u3, .ref sa, .ref aa])), (sa, .inl (G 1, 10, .inr (.inl (vp_updL u4 0 (u5 0))))), (aa, .inl (G 1, 10, .inr (.inl u5)))] H := hP
  have hD : va_D A [(h0, .inr (4, [.long u3, .ref sa, .ref aa])), (sa, .inl (G 1, 10, .inr (.inl (vp_updL u4 0 (u5 0))))), (aa, .inl (G 1, 10, .inr (.inl u5)))] := hD
  refine lv_iconst (v := 1) hx hb dX4_deepen_16 (by decide) ?_
  refine lv_istore_n (lv' := [(1, .int 1), (0, .ref h0)]) hx hb dX4_deepen_17 rfl hl (by decide) rfl (fun ls hl => ?_)
  have loop18_8 : ∀ (nf j6 : Nat), 10 + 1 ≤ j6 + nf → j6 ≤ 10 → 1 ≤ j6 → ∀ (g7 : Nat → Int64) (H : Heap) (locs : List Loc), va_P (dC, dI) vwCl [(h0, .inr (4, [.long u3, .ref sa, .ref aa])), (sa, .inl (G 1, 10, .inr (.inl g7))), (aa, .inl (G 1, 10, .inr (.inl u5)))] H → va_D A [(h0, .inr (4, [.long u3, .ref sa, .ref aa])), (sa, .inl (G 1, 10, .inr (.inl g7))), (aa, .inl (G 1, 10, .inr (.inl u5)))] → va_S A s.heap H locs → ∀ (ls : Array Slot), lv_has ls 2 [(1, .int (nI j6)), (0, .ref h0)] → W p l e (headSpec (Cond.code yX4_deepen cX4_deepen 2 none :: GT) ({ frames := 1, cells := 0, slots := 0, locals := 21 } : Room)).room s m ([.ref h0] : List Value).toArray below meth c H locs 0 0 (MQ below (va_Qv (fun (u : Int64 × (Nat → Int64) × (Nat → Int64)) => match u with | (u0, u1, u2) => True) (fun (u : Int64 × (Nat → Int64) × (Nat → Int64)) (t : State) => match u with | (u0, u1, u2) => va_P (dC, dI) vwCl [(h0, .inr (4, [.long u0, .ref sa, .ref aa])), (sa, .inl (G 1, 10, .inr (.inl u1))), (aa, .inl (G 1, 10, .inr (.inl u2)))] t.heap ∧ va_D A [(h0, .inr (4, [.long u0, .ref sa, .ref aa])), (sa, .inl (G 1, 10, .inr (.inl u1))), (aa, .inl (G 1, 10, .inr (.inl u2)))]) A) ([.ref h0] : List Value).toArray s 0 0 A) (F0 m 18 ls []) := by
    intro nf
    induction nf with
    | zero => intro j6 h1 h2; exact absurd h1 (by omega)
    | succ nf ih18_8 =>
      intro j6 hn9 hj10 hlo_j6 g7 H locs hP hD hS ls hl
      refine lv_iload_n hx hb dX4_deepen_18 rfl (lv_at hl 0 rfl) ?_
      refine lv_bipush (v := 10) hx hb dX4_deepen_19 (by decide) ?_
      refine lv_icmp_ge (tgt := 52) hx hb dX4_deepen_21 (by decide) (fun c11 => ?_) (fun c11 => ?_)
      · skip
        have n12 : 10 ≤ j6 := by have t := leI c11; rw [nI_toInt (n := j6) (by omega)] at t; have : (10 : Int32).toInt = 10 := (by decide); omega
        have hP9 := hP.sub (ws' := [(h0, .inr (4, [.long u3, .ref sa, .ref aa])), (sa, .inl (G 1, 10, .inr (.inl g7))), (aa, .inl (G 1, 10, .inr (.inl u5)))]) [0, 1, 2] rfl
        have hD9 := hD.sub (ws' := [(h0, .inr (4, [.long u3, .ref sa, .ref aa])), (sa, .inl (G 1, 10, .inr (.inl g7))), (aa, .inl (G 1, 10, .inr (.inl u5)))]) [0, 1, 2] (by decide) rfl
        refine W.widen (k := 0) (n := 0) (by omega) (by omega) ?_
        exact W.vret hx hb hr (fun t ht hW => ⟨⟨(u3, g7, u5), rfl, trivial, ⟨by rw [ht]; exact hP9, hD9⟩⟩, hS.F ht⟩) hS.2.2 dX4_deepen_52
      · skip
        have n13 : j6 < 10 := by have t := nleI c11; rw [nI_toInt (n := j6) (by omega)] at t; have : (10 : Int32).toInt = 10 := (by decide); omega
        refine lv_aload_n hx hb dX4_deepen_24 rfl (lv_at hl 1 rfl) ?_
        refine va_get (D := (dC, dI)) (ci := 4) (v := .ref sa) (C := RX4) (T := TX4) (N := 3) hx hb hg inG4 hown hK.1 hP 0 rfl rfl 1 (by decide) (hg _ wt_158) (fun _ h9 => h9) rfl dX4_deepen_25 ?_
        refine lv_bipush (v := 9) hx hb dX4_deepen_28 (by decide) ?_
        refine lv_iload_n hx hb dX4_deepen_30 rfl (lv_at hl 0 rfl) ?_
        refine lv_iconst (v := 2) hx hb dX4_deepen_31 (by decide) ?_
        refine lv_iadd hx hb dX4_deepen_32 ?_
        refine lv_cg (y := nI (j6 + 2)) (by rw [show (2 : Int32) = nI 2 from rfl]; exact nI_add _ _) ?_
        have hPc := hP.sub (ws' := []) [] rfl
        refine va_calli (va_runS (As := [.int 9, .int (nI (j6 + 2))]) (rest := [.ref sa]) ⟨hx, hb, hml, hown, hg⟩ (c_J9_min l dC dI G _ 9 (nI (j6 + 2)) ) (kwS hg mfJ9_min_7cf53 wt_624 ⟨Nat.le_of_ble_eq_true rfl, Nat.le_of_ble_eq_true rfl⟩) (preSR hK hPc) rfl rfl hl.1 rfl (lv_room (Nat.le_of_ble_eq_true rfl)) dX4_deepen_33 ⟨Nat.le_of_ble_eq_true rfl, Nat.le_of_ble_eq_true rfl⟩) hS (fun q h1 h2 => absurd h2 (Nat.not_le.mpr h1)) (fun q h => hA q (Nat.le_trans hS.1 h)) (fun r14 ur14 t H1 locs ht hvm w15 hB hz1 hk1 hS => ?_)
        have hP := keepR hP hk1
        obtain ⟨w15, w15x⟩ := w15
        have w15 : r14 = nI (min 9 (j6 + 2)) := w15.trans (mn_nI (a := 9) (b := (j6 + 2)) (by omega) (by omega))
        subst w15
        refine lv_dup2_11 hx hb dX4_deepen_36 rfl rfl ?_
        refine va_lald hx hb hK.1 hP 1 1 rfl rfl (vp_in_nI (by have t_hj10 := hj10; have t_hlo_j6 := hlo_j6; have t_n13 := n13; have t_n0 : (nI j6).toInt = (j6 : Int) := nI_toInt (by omega); omega) (by decide)) dX4_deepen_37 ?_
        refine lv_cgl (y := g7 (min 9 (j6 + 2))) (by rw [nI_clamp (by omega)]) ?_
        refine lv_aload_n hx hb dX4_deepen_38 rfl (lv_at hl 1 rfl) ?_
        refine va_get (D := (dC, dI)) (ci := 4) (v := .ref aa) (C := RX4) (T := TX4) (N := 3) hx hb hg inG4 hown hK.1 hP 0 rfl rfl 2 (by decide) (hg _ wt_160) (fun _ h9 => h9) rfl dX4_deepen_39 ?_
        refine lv_iload_n hx hb dX4_deepen_42 rfl (lv_at hl 0 rfl) ?_
        refine va_lald hx hb hK.1 hP 2 1 rfl rfl (vp_in_nI (by have t_hj10 := hj10; have t_hlo_j6 := hlo_j6; have t_n13 := n13; have t_n0 : (nI j6).toInt = (j6 : Int) := nI_toInt (by omega); omega) (by decide)) dX4_deepen_43 ?_
        refine lv_cgl (y := u5 j6) (by rw [nI_clamp (by omega)]) ?_
        refine lv_ladd hx hb dX4_deepen_44 ?_
        refine va_last hx hb hK.1 hP hD hS 1 1 rfl rfl (vp_in_nI (by have t_hj10 := hj10; have t_hlo_j6 := hlo_j6; have t_n13 := n13; have t_n0 : (nI j6).toInt = (j6 : Int) := nI_toInt (by omega); omega) (by decide)) dX4_deepen_45 (fun H locs hP hD hS => ?_)
        rw [nI_clamp (by omega)] at hP hD
        have hP : va_P (dC, dI) vwCl [(h0, .inr (4, [.long u3, .ref sa, .ref aa])), (sa, .inl (G 1, 10, .inr (.inl (vp_updL g7 (min 9 (j6 + 2)) ((g7 (min 9 (j6 + 2))) + (u5 j6)))))), (aa, .inl (G 1, 10, .inr (.inl u5)))] H := hP
        have hD : va_D A [(h0, .inr (4, [.long u3, .ref sa, .ref aa])), (sa, .inl (G 1, 10, .inr (.inl (vp_updL g7 (min 9 (j6 + 2)) ((g7 (min 9 (j6 + 2))) + (u5 j6)))))), (aa, .inl (G 1, 10, .inr (.inl u5)))] := hD
        refine lv_iinc (v := nI (j6 + 1)) (lv' := [(1, .int (nI (j6 + 1))), (0, .ref h0)]) hx hb dX4_deepen_46 hl (k := 0) rfl (by rw [show Int32.ofInt 1 = nI 1 from by decide]; exact nI_add _ _) (by decide) rfl (fun ls hl => ?_)
        refine lv_goto (tgt := 18) hx hb dX4_deepen_49 (by decide) ?_
        exact ih18_8 (j6 + 1) (by omega) (by omega) (by omega) (vp_updL g7 (min 9 (j6 + 2)) ((g7 (min 9 (j6 + 2))) + (u5 j6))) _ _ hP hD hS ls (lv_sub hl [0, 1] rfl)
  exact loop18_8 (10 + 1) 1 (by omega) (by omega) (by omega) (vp_updL u4 0 (u5 0)) _ _ hP hD hS ls (lv_sub hl [0, 1] rfl)

set_option maxHeartbeats 1000000 in
set_option maxRecDepth 100000 in
theorem c_X4_waking (l : Launch) (dC : Nat → ClassId) (dI : Nat → Nat → Nat) (G : Nat → ClassId) (sz : Nat) (h0 sa aa wy a1 a2 a3 a4 a5 a6 N B D M : Nat) (q1 : Int32) (w0 : Int64) (f1 f2 f3 f4 f5 f6 : Nat → Int32) (f g : Nat → Int64) (hN_N : N ≤ 10) (hB_B : B ≤ 6) (hD_D : 1 ≤ D ∧ D ≤ 9) (hM : M ≤ 10) : Met l yX4_waking (Cond.code yX4_waking cX4_waking 5 (some .long) :: GT) ({ frames := 4, cells := 0, slots := 0, locals := 88 } : Room) (PcW [.ref h0, .ref wy, .int (nI M), .int q1] dC dI G [(h0, .inr (4, [.long w0, .ref sa, .ref aa])), (sa, .inl (G 1, 10, .inr (.inl f))), (aa, .inl (G 1, 10, .inr (.inl g))), (wy, .inr (9, [.int (nI N), .int (nI B), .int (nI D), .ref a1, .ref a2, .ref a3, .ref a4, .ref a5, .ref a6])), (a1, .inl (G 0, 10, .inl f1)), (a2, .inl (G 0, 10, .inl f2)), (a3, .inl (G 0, 10, .inl f3)), (a4, .inl (G 0, 6, .inl f4)), (a5, .inl (G 0, 6, .inl f5)), (a6, .inl (G 0, 6, .inl f6))] sz) (va_Ql (fun (r : Int64) (u : Int64 × (Nat → Int64) × (Nat → Int64)) => match u with | (u0, u1, u2) => (True) ∧ True) (fun (u : Int64 × (Nat → Int64) × (Nat → Int64)) (t : State) => match u with | (u0, u1, u2) => va_P (dC, dI) vwCl [(h0, .inr (4, [.long u0, .ref sa, .ref aa])), (sa, .inl (G 1, 10, .inr (.inl u1))), (aa, .inl (G 1, 10, .inr (.inl u2))), (wy, .inr (9, [.int (nI N), .int (nI B), .int (nI D), .ref a1, .ref a2, .ref a3, .ref a4, .ref a5, .ref a6])), (a1, .inl (G 0, 10, .inl f1)), (a2, .inl (G 0, 10, .inl f2)), (a3, .inl (G 0, 10, .inl f3)), (a4, .inl (G 0, 6, .inl f4)), (a5, .inl (G 0, 6, .inl f5)), (a6, .inl (G 0, 6, .inl f6))] t.heap ∧ va_D (va_A [(h0, .inr (4, [.long w0, .ref sa, .ref aa])), (sa, .inl (G 1, 10, .inr (.inl f))), (aa, .inl (G 1, 10, .inr (.inl g))), (wy, .inr (9, [.int (nI N), .int (nI B), .int (nI D), .ref a1, .ref a2, .ref a3, .ref a4, .ref a5, .ref a6])), (a1, .inl (G 0, 10, .inl f1)), (a2, .inl (G 0, 10, .inl f2)), (a3, .inl (G 0, 10, .inl f3)), (a4, .inl (G 0, 6, .inl f4)), (a5, .inl (G 0, 6, .inl f5)), (a6, .inl (G 0, 6, .inl f6))] sz) [(h0, .inr (4, [.long u0, .ref sa, .ref aa])), (sa, .inl (G 1, 10, .inr (.inl u1))), (aa, .inl (G 1, 10, .inr (.inl u2))), (wy, .inr (9, [.int (nI N), .int (nI B), .int (nI D), .ref a1, .ref a2, .ref a3, .ref a4, .ref a5, .ref a6])), (a1, .inl (G 0, 10, .inl f1)), (a2, .inl (G 0, 10, .inl f2)), (a3, .inl (G 0, 10, .inl f3)), (a4, .inl (G 0, 6, .inl f4)), (a5, .inl (G 0, 6, .inl f5)), (a6, .inl (G 0, 6, .inl f6))]) (va_A [(h0, .inr (4, [.long w0, .ref sa, .ref aa])), (sa, .inl (G 1, 10, .inr (.inl f))), (aa, .inl (G 1, 10, .inr (.inl g))), (wy, .inr (9, [.int (nI N), .int (nI B), .int (nI D), .ref a1, .ref a2, .ref a3, .ref a4, .ref a5, .ref a6])), (a1, .inl (G 0, 10, .inl f1)), (a2, .inl (G 0, 10, .inl f2)), (a3, .inl (G 0, 10, .inl f3)), (a4, .inl (G 0, 6, .inl f4)), (a5, .inl (G 0, 6, .inl f5)), (a6, .inl (G 0, 6, .inl f6))] sz)) 0 0 (va_A [(h0, .inr (4, [.long w0, .ref sa, .ref aa])), (sa, .inl (G 1, 10, .inr (.inl f))), (aa, .inl (G 1, 10, .inr (.inl g))), (wy, .inr (9, [.int (nI N), .int (nI B), .int (nI D), .ref a1, .ref a2, .ref a3, .ref a4, .ref a5, .ref a6])), (a1, .inl (G 0, 10, .inl f1)), (a2, .inl (G 0, 10, .inl f2)), (a3, .inl (G 0, 10, .inl f3)), (a4, .inl (G 0, 6, .inl f4)), (a5, .inl (G 0, 6, .inl f5)), (a6, .inl (G 0, 6, .inl f6))] sz) := by
  refine Met.ofW (cc := cX4_waking) (maxL := 5) (ret := (some .long)) (by decide) rfl ?_
  intro p e s m args below meth c s₁ Bd hml hv
  obtain ⟨rfl, hsz, hP, hK, hD0⟩ := hv
  have hx := Bd.exec
  have hb := Bd.bytes
  have hr := Bd.returns
  have hg : ∀ w ∈ GT, w.before ([.ref h0, .ref wy, .int (nI M), .int q1] : List Value).toArray s = true := fun w h => atoms_spec (ws := Cond.code yX4_waking cX4_waking 5 (some .long) :: GT) Bd.pre w (List.mem_cons_of_mem _ h)
  have hown : s.vm.findClass RX4 = some m.cls := findClass_of_methodNamed Bd.named
  have hlocks := Bd.notSynchronized
  subst hsz
  have hD := hD0.self (sz := s.heap.size)
  generalize hAe : va_A [(h0, .inr (4, [.long w0, .ref sa, .ref aa])), (sa, .inl (G 1, 10, .inr (.inl f))), (aa, .inl (G 1, 10, .inr (.inl g))), (wy, .inr (9, [.int (nI N), .int (nI B), .int (nI D), .ref a1, .ref a2, .ref a3, .ref a4, .ref a5, .ref a6])), (a1, .inl (G 0, 10, .inl f1)), (a2, .inl (G 0, 10, .inl f2)), (a3, .inl (G 0, 10, .inl f3)), (a4, .inl (G 0, 6, .inl f4)), (a5, .inl (G 0, 6, .inl f5)), (a6, .inl (G 0, 6, .inl f6))] s.heap.size = A at hD ⊢
  have hA : ∀ q : Nat, s.heap.size ≤ q → A q := fun q h => by rw [← hAe]; exact Or.inr h
  have hS : va_S A s.heap s.heap [] := va_S.rf
  have hl := lv_entry ([.ref h0, .ref wy, .int (nI M), .int q1]) (n := 5) (Nat.le_of_ble_eq_true rfl)
  rw [lg_entry_eq]
  generalize (lg_sl ([.ref h0, .ref wy, .int (nI M), .int q1]) ++ List.replicate (5 - (lg_sl ([.ref h0, .ref wy, .int (nI M), .int q1])).length) Slot.unset).toArray = ls at hl ⊢
  have hl : lv_has ls 5 [(0, .ref h0), (1, .ref wy), (2, .int (nI M)), (3, .int q1)] := hl
  refine lv_aload_n hx hb dX4_waking_0 rfl (lv_at hl 0 rfl) ?_
  refine lv_aload_n hx hb dX4_waking_1 rfl (lv_at hl 1 rfl) ?_
  refine va_getN (D := (dC, dI)) (ci := 9) (v := .int (nI D)) (C := RX9) (T := TX9) (N := 9) hx hb hg inG9 hown hK.1 hP 3 rfl rfl 2 (by decide) (hK.nest wn_67) (fun _ h9 => h9) rfl dX4_waking_2 ?_
  have hPc := hP.sub (ws' := [(h0, .inr (4, [.long w0, .ref sa, .ref aa])), (sa, .inl (G 1, 10, .inr (.inl f))), (aa, .inl (G 1, 10, .inr (.inl g)))]) [0, 1, 2] rfl
  have hDc := hD.sub (ws' := [(h0, .inr (4, [.long w0, .ref sa, .ref aa])), (sa, .inl (G 1, 10, .inr (.inl f))), (aa, .inl (G 1, 10, .inr (.inl g)))]) [0, 1, 2] (by decide) rfl
  have hFc := va_free (wc := [(h0, .inr (4, [.long w0, .ref sa, .ref aa])), (sa, .inl (G 1, 10, .inr (.inl f))), (aa, .inl (G 1, 10, .inr (.inl g)))]) hD hS hA [0, 1, 2] rfl
  refine va_callv (va_runV (As := [.int (nI D)]) (rest := []) ⟨hx, hb, hml, hown, hg⟩ (c_X4_begin l dC dI G _ h0 sa aa (nI D) w0 f g ) (kwV hg mfX4_begin wt_612 ⟨Nat.le_of_ble_eq_true rfl, Nat.le_of_ble_eq_true rfl⟩) (preVW hK hPc hDc (ci := 4) rfl rfl) rfl rfl hl.1 rfl (lv_room (Nat.le_of_ble_eq_true rfl)) dX4_waking_5 ⟨Nat.le_of_ble_eq_true rfl, Nat.le_of_ble_eq_true rfl⟩) hS (fun q _ h => hFc q h) hFc (fun ur1 t H1 locs ht hvm w2 hB hz1 hk1 hS => ?_)
  obtain ⟨u3, u4, u5⟩ := ur1
  obtain ⟨hP1, hD1⟩ := hB
  rw [ht] at hP1
  obtain ⟨hP, hD⟩ := va_join (wr := [(wy, .inr (9, [.int (nI N), .int (nI B), .int (nI D), .ref a1, .ref a2, .ref a3, .ref a4, .ref a5, .ref a6])), (a1, .inl (G 0, 10, .inl f1)), (a2, .inl (G 0, 10, .inl f2)), (a3, .inl (G 0, 10, .inl f3)), (a4, .inl (G 0, 6, .inl f4)), (a5, .inl (G 0, 6, .inl f5)), (a6, .inl (G 0, 6, .inl f6))]) (w1 := [(h0, .inr (4, [.long u3, .ref sa, .ref aa])), (sa, .inl (G 1, 10, .inr (.inl u4))), (aa, .inl (G 1, 10, .inr (.inl u5)))]) hP hD [0, 1, 2] [3, 4, 5, 6, 7, 8, 9] rfl rfl (by decide) (by decide) hk1 hFc hP1 hD1
  generalize H1 = H at hP hS ⊢
  have hP : va_P (dC, dI) vwCl [(wy, .inr (9, [.int (nI N), .int (nI B), .int (nI D), .ref a1, .ref a2, .ref a3, .ref a4, .ref a5, .ref a6])), (a1, .inl (G 0, 10, .inl f1)), (a2, .inl (G 0, 10, .inl f2)), (a3, .inl (G 0, 10, .inl f3)), (a4, .inl (G 0, 6, .inl f4)), (a5, .inl (G 0, 6, .inl f5)), (a6, .inl (G 0, 6, .inl f6)), (h0, .inr (4, [.long u3, .ref sa, .ref aa])), (sa, .inl (G 1, 10, .inr (.inl u4))), (aa, .inl (G 1, 10, .inr (.inl u5)))] H := hP
  have hD : va_D A [(wy, .inr (9, [.int (nI N), .int (nI B), .int (nI D), .ref a1, .ref a2, .ref a3, .ref a4, .ref a5, .ref a6])), (a1, .inl (G 0, 10, .inl f1)), (a2, .inl (G 0, 10, .inl f2)), (a3, .inl (G 0, 10, .inl f3)), (a4, .inl (G 0, 6, .inl f4)), (a5, .inl (G 0, 6, .inl f5)), (a6, .inl (G 0, 6, .inl f6)), (h0, .inr (4, [.long u3, .ref sa, .ref aa])), (sa, .inl (G 1, 10, .inr (.inl u4))), (aa, .inl (G 1, 10, .inr (.inl u5)))] := hD
  refine lv_iconst (v := 0) hx hb dX4_waking_8 (by decide) ?_
  refine lv_istore (lv' := [(4, .int 0), (0, .ref h0), (1, .ref wy), (2, .int (nI M)), (3, .int q1)]) hx hb dX4_waking_9 hl (by decide) rfl (fun ls hl => ?_)
  have loop11_10 : ∀ (nf j6 : Nat), M + 1 ≤ j6 + nf → j6 ≤ M → ∀ (y7 : Int64) (g8 : Nat → Int64) (g9 : Nat → Int64) (H : Heap) (locs : List Loc), va_P (dC, dI) vwCl [(wy, .inr (9, [.int (nI N), .int (nI B), .int (nI D), .ref a1, .ref a2, .ref a3, .ref a4, .ref a5, .ref a6])), (a1, .inl (G 0, 10, .inl f1)), (a2, .inl (G 0, 10, .inl f2)), (a3, .inl (G 0, 10, .inl f3)), (a4, .inl (G 0, 6, .inl f4)), (a5, .inl (G 0, 6, .inl f5)), (a6, .inl (G 0, 6, .inl f6)), (h0, .inr (4, [.long y7, .ref sa, .ref aa])), (sa, .inl (G 1, 10, .inr (.inl g8))), (aa, .inl (G 1, 10, .inr (.inl g9)))] H → va_D A [(wy, .inr (9, [.int (nI N), .int (nI B), .int (nI D), .ref a1, .ref a2, .ref a3, .ref a4, .ref a5, .ref a6])), (a1, .inl (G 0, 10, .inl f1)), (a2, .inl (G 0, 10, .inl f2)), (a3, .inl (G 0, 10, .inl f3)), (a4, .inl (G 0, 6, .inl f4)), (a5, .inl (G 0, 6, .inl f5)), (a6, .inl (G 0, 6, .inl f6)), (h0, .inr (4, [.long y7, .ref sa, .ref aa])), (sa, .inl (G 1, 10, .inr (.inl g8))), (aa, .inl (G 1, 10, .inr (.inl g9)))] → va_S A s.heap H locs → ∀ (ls : Array Slot), lv_has ls 5 [(4, .int (nI j6)), (0, .ref h0), (1, .ref wy), (2, .int (nI M)), (3, .int q1)] → W p l e (headSpec (Cond.code yX4_waking cX4_waking 5 (some .long) :: GT) ({ frames := 4, cells := 0, slots := 0, locals := 88 } : Room)).room s m ([.ref h0, .ref wy, .int (nI M), .int q1] : List Value).toArray below meth c H locs 0 0 (MQ below (va_Ql (fun (r : Int64) (u : Int64 × (Nat → Int64) × (Nat → Int64)) => match u with | (u0, u1, u2) => (True) ∧ True) (fun (u : Int64 × (Nat → Int64) × (Nat → Int64)) (t : State) => match u with | (u0, u1, u2) => va_P (dC, dI) vwCl [(h0, .inr (4, [.long u0, .ref sa, .ref aa])), (sa, .inl (G 1, 10, .inr (.inl u1))), (aa, .inl (G 1, 10, .inr (.inl u2))), (wy, .inr (9, [.int (nI N), .int (nI B), .int (nI D), .ref a1, .ref a2, .ref a3, .ref a4, .ref a5, .ref a6])), (a1, .inl (G 0, 10, .inl f1)), (a2, .inl (G 0, 10, .inl f2)), (a3, .inl (G 0, 10, .inl f3)), (a4, .inl (G 0, 6, .inl f4)), (a5, .inl (G 0, 6, .inl f5)), (a6, .inl (G 0, 6, .inl f6))] t.heap ∧ va_D A [(h0, .inr (4, [.long u0, .ref sa, .ref aa])), (sa, .inl (G 1, 10, .inr (.inl u1))), (aa, .inl (G 1, 10, .inr (.inl u2))), (wy, .inr (9, [.int (nI N), .int (nI B), .int (nI D), .ref a1, .ref a2, .ref a3, .ref a4, .ref a5, .ref a6])), (a1, .inl (G 0, 10, .inl f1)), (a2, .inl (G 0, 10, .inl f2)), (a3, .inl (G 0, 10, .inl f3)), (a4, .inl (G 0, 6, .inl f4)), (a5, .inl (G 0, 6, .inl f5)), (a6, .inl (G 0, 6, .inl f6))]) A) ([.ref h0, .ref wy, .int (nI M), .int q1] : List Value).toArray s 0 0 A) (F0 m 11 ls []) := by
    intro nf
    induction nf with
    | zero => intro j6 h1 h2; exact absurd h1 (by omega)
    | succ nf ih11_10 =>
      intro j6 hn11 hj12 y7 g8 g9 H locs hP hD hS ls hl
      refine lv_iload hx hb dX4_waking_11 (lv_at hl 0 rfl) ?_
      refine lv_iload_n hx hb dX4_waking_13 rfl (lv_at hl 3 rfl) ?_
      refine lv_icmp_ge (tgt := 43) hx hb dX4_waking_14 (by decide) (fun c13 => ?_) (fun c13 => ?_)
      · skip
        have n14 : M ≤ j6 := by have t := leI c13; rw [nI_toInt (n := j6) (by omega)] at t; rw [nI_toInt (n := M) (by omega)] at t; omega
        refine lv_aload_n hx hb dX4_waking_43 rfl (lv_at hl 1 rfl) ?_
        refine va_get (D := (dC, dI)) (ci := 4) (v := .ref sa) (C := RX4) (T := TX4) (N := 3) hx hb hg inG4 hown hK.1 hP 7 rfl rfl 1 (by decide) (hg _ wt_158) (fun _ h9 => h9) rfl dX4_waking_44 ?_
        refine lv_iconst (v := 0) hx hb dX4_waking_47 (by decide) ?_
        refine va_lald hx hb hK.1 hP 8 1 rfl rfl (vp_in_iff.mpr ⟨by decide, by decide⟩) dX4_waking_48 ?_
        refine lv_cgl (y := g8 0) (by rfl) ?_
        have hpost : True := by
          trivial
        have hP9 := hP.sub (ws' := [(h0, .inr (4, [.long y7, .ref sa, .ref aa])), (sa, .inl (G 1, 10, .inr (.inl g8))), (aa, .inl (G 1, 10, .inr (.inl g9))), (wy, .inr (9, [.int (nI N), .int (nI B), .int (nI D), .ref a1, .ref a2, .ref a3, .ref a4, .ref a5, .ref a6])), (a1, .inl (G 0, 10, .inl f1)), (a2, .inl (G 0, 10, .inl f2)), (a3, .inl (G 0, 10, .inl f3)), (a4, .inl (G 0, 6, .inl f4)), (a5, .inl (G 0, 6, .inl f5)), (a6, .inl (G 0, 6, .inl f6))]) [7, 8, 9, 0, 1, 2, 3, 4, 5, 6] rfl
        have hD9 := hD.sub (ws' := [(h0, .inr (4, [.long y7, .ref sa, .ref aa])), (sa, .inl (G 1, 10, .inr (.inl g8))), (aa, .inl (G 1, 10, .inr (.inl g9))), (wy, .inr (9, [.int (nI N), .int (nI B), .int (nI D), .ref a1, .ref a2, .ref a3, .ref a4, .ref a5, .ref a6])), (a1, .inl (G 0, 10, .inl f1)), (a2, .inl (G 0, 10, .inl f2)), (a3, .inl (G 0, 10, .inl f3)), (a4, .inl (G 0, 6, .inl f4)), (a5, .inl (G 0, 6, .inl f5)), (a6, .inl (G 0, 6, .inl f6))]) [7, 8, 9, 0, 1, 2, 3, 4, 5, 6] (by decide) rfl
        refine W.widen (k := 0) (n := 0) (by omega) (by omega) ?_
        exact W.lret (v := g8 0) hx hb hr (fun t ht hW => ⟨⟨g8 0, (y7, g8, g9), rfl, ⟨hpost, trivial⟩, ⟨by rw [ht]; exact hP9, hD9⟩⟩, hS.F ht⟩) hS.2.2 dX4_waking_49
      · skip
        have n15 : j6 < M := by have t := nleI c13; rw [nI_toInt (n := j6) (by omega)] at t; rw [nI_toInt (n := M) (by omega)] at t; omega
        refine lv_iload hx hb dX4_waking_17 (lv_at hl 0 rfl) ?_
        refine lv_iload_n hx hb dX4_waking_19 rfl (lv_at hl 4 rfl) ?_
        refine lv_icmp_ne (tgt := 27) hx hb dX4_waking_20 (by decide) (fun c16 => ?_) (fun c16 => ?_)
        · skip
          refine lv_aload_n hx hb dX4_waking_27 rfl (lv_at hl 1 rfl) ?_
          refine lv_aload_n hx hb dX4_waking_28 rfl (lv_at hl 2 rfl) ?_
          refine lv_iload hx hb dX4_waking_29 (lv_at hl 0 rfl) ?_
          have hPc := hP.sub (ws' := [(wy, .inr (9, [.int (nI N), .int (nI B), .int (nI D), .ref a1, .ref a2, .ref a3, .ref a4, .ref a5, .ref a6])), (a1, .inl (G 0, 10, .inl f1)), (a2, .inl (G 0, 10, .inl f2)), (a3, .inl (G 0, 10, .inl f3)), (a4, .inl (G 0, 6, .inl f4)), (a5, .inl (G 0, 6, .inl f5)), (a6, .inl (G 0, 6, .inl f6))]) [0, 1, 2, 3, 4, 5, 6] rfl
          refine va_calli (va_runVN (As := [.int (nI j6)]) (rest := [.ref h0]) ⟨hx, hb, hml, hown, hg⟩ (c_X9_harmInOrder l dC dI G _ wy a1 a2 a3 a4 a5 a6 N B D (nI j6) f1 f2 f3 f4 f5 f6 (by have t_hj12 := hj12; have t_n15 := n15; have t_c16 := neI c16; have t_n0 : (nI M).toInt = (M : Int) := nI_toInt (by omega); have t_n1 : (nI N).toInt = (N : Int) := nI_toInt (by omega); have t_n2 : (nI B).toInt = (B : Int) := nI_toInt (by omega); have t_n3 : (nI D).toInt = (D : Int) := nI_toInt (by omega); have t_n4 : (nI j6).toInt = (j6 : Int) := nI_toInt (by omega); omega) (by have t_hj12 := hj12; have t_n15 := n15; have t_c16 := neI c16; have t_n0 : (nI M).toInt = (M : Int) := nI_toInt (by omega); have t_n1 : (nI N).toInt = (N : Int) := nI_toInt (by omega); have t_n2 : (nI B).toInt = (B : Int) := nI_toInt (by omega); have t_n3 : (nI D).toInt = (D : Int) := nI_toInt (by omega); have t_n4 : (nI j6).toInt = (j6 : Int) := nI_toInt (by omega); omega) (by have t_hj12 := hj12; have t_n15 := n15; have t_c16 := neI c16; have t_n0 : (nI M).toInt = (M : Int) := nI_toInt (by omega); have t_n1 : (nI N).toInt = (N : Int) := nI_toInt (by omega); have t_n2 : (nI B).toInt = (B : Int) := nI_toInt (by omega); have t_n3 : (nI D).toInt = (D : Int) := nI_toInt (by omega); have t_n4 : (nI j6).toInt = (j6 : Int) := nI_toInt (by omega); omega)) (kwVN hg hK mfX9_harmInOrder wn_625 ⟨Nat.le_of_ble_eq_true rfl, Nat.le_of_ble_eq_true rfl⟩) (preVR hK hPc (ci := 9) rfl rfl) rfl rfl hl.1 rfl (lv_room (Nat.le_of_ble_eq_true rfl)) dX4_waking_31 ⟨Nat.le_of_ble_eq_true rfl, Nat.le_of_ble_eq_true rfl⟩) hS (fun q h1 h2 => absurd h2 (Nat.not_le.mpr h1)) (fun q h => hA q (Nat.le_trans hS.1 h)) (fun r17 ur17 t H1 locs ht hvm w18 hB hz1 hk1 hS => ?_)
          have hP := keepR hP hk1
          obtain ⟨w18, w18x⟩ := w18
          subst w18
          have hPc := hP.sub (ws' := [(h0, .inr (4, [.long y7, .ref sa, .ref aa])), (sa, .inl (G 1, 10, .inr (.inl g8))), (aa, .inl (G 1, 10, .inr (.inl g9)))]) [7, 8, 9] rfl
          have hDc := hD.sub (ws' := [(h0, .inr (4, [.long y7, .ref sa, .ref aa])), (sa, .inl (G 1, 10, .inr (.inl g8))), (aa, .inl (G 1, 10, .inr (.inl g9)))]) [7, 8, 9] (by decide) rfl
          have hFc := va_free (wc := [(h0, .inr (4, [.long y7, .ref sa, .ref aa])), (sa, .inl (G 1, 10, .inr (.inl g8))), (aa, .inl (G 1, 10, .inr (.inl g9)))]) hD hS hA [7, 8, 9] rfl
          refine va_callv (va_runV (As := [.int (hmO N B f1 f2 f3 f4 f5 f6 (nI j6))]) (rest := []) ⟨hx, hb, hml, hown, hg⟩ (c_X4_pass l dC dI G _ h0 sa aa (hmO N B f1 f2 f3 f4 f5 f6 (nI j6)) y7 g8 g9 ) (kwV hg mfX4_pass wt_630 ⟨Nat.le_of_ble_eq_true rfl, Nat.le_of_ble_eq_true rfl⟩) (preVW hK hPc hDc (ci := 4) rfl rfl) rfl rfl hl.1 rfl (lv_room (Nat.le_of_ble_eq_true rfl)) dX4_waking_34 ⟨Nat.le_of_ble_eq_true rfl, Nat.le_of_ble_eq_true rfl⟩) hS (fun q _ h => hFc q h) hFc (fun ur19 t H1 locs ht hvm w20 hB hz1 hk1 hS => ?_)
          obtain ⟨u21, u22, u23⟩ := ur19
          obtain ⟨hP1, hD1⟩ := hB
          rw [ht] at hP1
          obtain ⟨hP, hD⟩ := va_join (wr := [(wy, .inr (9, [.int (nI N), .int (nI B), .int (nI D), .ref a1, .ref a2, .ref a3, .ref a4, .ref a5, .ref a6])), (a1, .inl (G 0, 10, .inl f1)), (a2, .inl (G 0, 10, .inl f2)), (a3, .inl (G 0, 10, .inl f3)), (a4, .inl (G 0, 6, .inl f4)), (a5, .inl (G 0, 6, .inl f5)), (a6, .inl (G 0, 6, .inl f6))]) (w1 := [(h0, .inr (4, [.long u21, .ref sa, .ref aa])), (sa, .inl (G 1, 10, .inr (.inl u22))), (aa, .inl (G 1, 10, .inr (.inl u23)))]) hP hD [7, 8, 9] [0, 1, 2, 3, 4, 5, 6] rfl rfl (by decide) (by decide) hk1 hFc hP1 hD1
          generalize H1 = H at hP hS ⊢
          have hP : va_P (dC, dI) vwCl [(wy, .inr (9, [.int (nI N), .int (nI B), .int (nI D), .ref a1, .ref a2, .ref a3, .ref a4, .ref a5, .ref a6])), (a1, .inl (G 0, 10, .inl f1)), (a2, .inl (G 0, 10, .inl f2)), (a3, .inl (G 0, 10, .inl f3)), (a4, .inl (G 0, 6, .inl f4)), (a5, .inl (G 0, 6, .inl f5)), (a6, .inl (G 0, 6, .inl f6)), (h0, .inr (4, [.long u21, .ref sa, .ref aa])), (sa, .inl (G 1, 10, .inr (.inl u22))), (aa, .inl (G 1, 10, .inr (.inl u23)))] H := hP
          have hD : va_D A [(wy, .inr (9, [.int (nI N), .int (nI B), .int (nI D), .ref a1, .ref a2, .ref a3, .ref a4, .ref a5, .ref a6])), (a1, .inl (G 0, 10, .inl f1)), (a2, .inl (G 0, 10, .inl f2)), (a3, .inl (G 0, 10, .inl f3)), (a4, .inl (G 0, 6, .inl f4)), (a5, .inl (G 0, 6, .inl f5)), (a6, .inl (G 0, 6, .inl f6)), (h0, .inr (4, [.long u21, .ref sa, .ref aa])), (sa, .inl (G 1, 10, .inr (.inl u22))), (aa, .inl (G 1, 10, .inr (.inl u23)))] := hD
          refine lv_iinc (v := nI (j6 + 1)) (lv' := [(4, .int (nI (j6 + 1))), (0, .ref h0), (1, .ref wy), (2, .int (nI M)), (3, .int q1)]) hx hb dX4_waking_37 hl (k := 0) rfl (by rw [show Int32.ofInt 1 = nI 1 from by decide]; exact nI_add _ _) (by decide) rfl (fun ls hl => ?_)
          refine lv_goto (tgt := 11) hx hb dX4_waking_40 (by decide) ?_
          exact ih11_10 (j6 + 1) (by omega) (by omega) u21 u22 u23 _ _ hP hD hS ls (lv_sub hl [0, 1, 2, 3, 4] rfl)
        · skip
          refine lv_aload_n hx hb dX4_waking_23 rfl (lv_at hl 1 rfl) ?_
          have hPc := hP.sub (ws' := [(h0, .inr (4, [.long y7, .ref sa, .ref aa])), (sa, .inl (G 1, 10, .inr (.inl g8))), (aa, .inl (G 1, 10, .inr (.inl g9)))]) [7, 8, 9] rfl
          have hDc := hD.sub (ws' := [(h0, .inr (4, [.long y7, .ref sa, .ref aa])), (sa, .inl (G 1, 10, .inr (.inl g8))), (aa, .inl (G 1, 10, .inr (.inl g9)))]) [7, 8, 9] (by decide) rfl
          have hFc := va_free (wc := [(h0, .inr (4, [.long y7, .ref sa, .ref aa])), (sa, .inl (G 1, 10, .inr (.inl g8))), (aa, .inl (G 1, 10, .inr (.inl g9)))]) hD hS hA [7, 8, 9] rfl
          refine va_callv (va_runV (As := []) (rest := []) ⟨hx, hb, hml, hown, hg⟩ (c_X4_deepen l dC dI G _ h0 sa aa y7 g8 g9 ) (kwV hg mfX4_deepen wt_616 ⟨Nat.le_of_ble_eq_true rfl, Nat.le_of_ble_eq_true rfl⟩) (preVW hK hPc hDc (ci := 4) rfl rfl) rfl rfl hl.1 rfl (lv_room (Nat.le_of_ble_eq_true rfl)) dX4_waking_24 ⟨Nat.le_of_ble_eq_true rfl, Nat.le_of_ble_eq_true rfl⟩) hS (fun q _ h => hFc q h) hFc (fun ur24 t H1 locs ht hvm w25 hB hz1 hk1 hS => ?_)
          obtain ⟨u26, u27, u28⟩ := ur24
          obtain ⟨hP1, hD1⟩ := hB
          rw [ht] at hP1
          obtain ⟨hP, hD⟩ := va_join (wr := [(wy, .inr (9, [.int (nI N), .int (nI B), .int (nI D), .ref a1, .ref a2, .ref a3, .ref a4, .ref a5, .ref a6])), (a1, .inl (G 0, 10, .inl f1)), (a2, .inl (G 0, 10, .inl f2)), (a3, .inl (G 0, 10, .inl f3)), (a4, .inl (G 0, 6, .inl f4)), (a5, .inl (G 0, 6, .inl f5)), (a6, .inl (G 0, 6, .inl f6))]) (w1 := [(h0, .inr (4, [.long u26, .ref sa, .ref aa])), (sa, .inl (G 1, 10, .inr (.inl u27))), (aa, .inl (G 1, 10, .inr (.inl u28)))]) hP hD [7, 8, 9] [0, 1, 2, 3, 4, 5, 6] rfl rfl (by decide) (by decide) hk1 hFc hP1 hD1
          generalize H1 = H at hP hS ⊢
          have hP : va_P (dC, dI) vwCl [(wy, .inr (9, [.int (nI N), .int (nI B), .int (nI D), .ref a1, .ref a2, .ref a3, .ref a4, .ref a5, .ref a6])), (a1, .inl (G 0, 10, .inl f1)), (a2, .inl (G 0, 10, .inl f2)), (a3, .inl (G 0, 10, .inl f3)), (a4, .inl (G 0, 6, .inl f4)), (a5, .inl (G 0, 6, .inl f5)), (a6, .inl (G 0, 6, .inl f6)), (h0, .inr (4, [.long u26, .ref sa, .ref aa])), (sa, .inl (G 1, 10, .inr (.inl u27))), (aa, .inl (G 1, 10, .inr (.inl u28)))] H := hP
          have hD : va_D A [(wy, .inr (9, [.int (nI N), .int (nI B), .int (nI D), .ref a1, .ref a2, .ref a3, .ref a4, .ref a5, .ref a6])), (a1, .inl (G 0, 10, .inl f1)), (a2, .inl (G 0, 10, .inl f2)), (a3, .inl (G 0, 10, .inl f3)), (a4, .inl (G 0, 6, .inl f4)), (a5, .inl (G 0, 6, .inl f5)), (a6, .inl (G 0, 6, .inl f6)), (h0, .inr (4, [.long u26, .ref sa, .ref aa])), (sa, .inl (G 1, 10, .inr (.inl u27))), (aa, .inl (G 1, 10, .inr (.inl u28)))] := hD
          refine lv_aload_n hx hb dX4_waking_27 rfl (lv_at hl 1 rfl) ?_
          refine lv_aload_n hx hb dX4_waking_28 rfl (lv_at hl 2 rfl) ?_
          refine lv_iload hx hb dX4_waking_29 (lv_at hl 0 rfl) ?_
          have hPc := hP.sub (ws' := [(wy, .inr (9, [.int (nI N), .int (nI B), .int (nI D), .ref a1, .ref a2, .ref a3, .ref a4, .ref a5, .ref a6])), (a1, .inl (G 0, 10, .inl f1)), (a2, .inl (G 0, 10, .inl f2)), (a3, .inl (G 0, 10, .inl f3)), (a4, .inl (G 0, 6, .inl f4)), (a5, .inl (G 0, 6, .inl f5)), (a6, .inl (G 0, 6, .inl f6))]) [0, 1, 2, 3, 4, 5, 6] rfl
          refine va_calli (va_runVN (As := [.int (nI j6)]) (rest := [.ref h0]) ⟨hx, hb, hml, hown, hg⟩ (c_X9_harmInOrder l dC dI G _ wy a1 a2 a3 a4 a5 a6 N B D (nI j6) f1 f2 f3 f4 f5 f6 (by have t_hj12 := hj12; have t_n15 := n15; have t_c16 := eqI c16; have t_n0 : (nI M).toInt = (M : Int) := nI_toInt (by omega); have t_n1 : (nI N).toInt = (N : Int) := nI_toInt (by omega); have t_n2 : (nI B).toInt = (B : Int) := nI_toInt (by omega); have t_n3 : (nI D).toInt = (D : Int) := nI_toInt (by omega); have t_n4 : (nI j6).toInt = (j6 : Int) := nI_toInt (by omega); omega) (by have t_hj12 := hj12; have t_n15 := n15; have t_c16 := eqI c16; have t_n0 : (nI M).toInt = (M : Int) := nI_toInt (by omega); have t_n1 : (nI N).toInt = (N : Int) := nI_toInt (by omega); have t_n2 : (nI B).toInt = (B : Int) := nI_toInt (by omega); have t_n3 : (nI D).toInt = (D : Int) := nI_toInt (by omega); have t_n4 : (nI j6).toInt = (j6 : Int) := nI_toInt (by omega); omega) (by have t_hj12 := hj12; have t_n15 := n15; have t_c16 := eqI c16; have t_n0 : (nI M).toInt = (M : Int) := nI_toInt (by omega); have t_n1 : (nI N).toInt = (N : Int) := nI_toInt (by omega); have t_n2 : (nI B).toInt = (B : Int) := nI_toInt (by omega); have t_n3 : (nI D).toInt = (D : Int) := nI_toInt (by omega); have t_n4 : (nI j6).toInt = (j6 : Int) := nI_toInt (by omega); omega)) (kwVN hg hK mfX9_harmInOrder wn_625 ⟨Nat.le_of_ble_eq_true rfl, Nat.le_of_ble_eq_true rfl⟩) (preVR hK hPc (ci := 9) rfl rfl) rfl rfl hl.1 rfl (lv_room (Nat.le_of_ble_eq_true rfl)) dX4_waking_31 ⟨Nat.le_of_ble_eq_true rfl, Nat.le_of_ble_eq_true rfl⟩) hS (fun q h1 h2 => absurd h2 (Nat.not_le.mpr h1)) (fun q h => hA q (Nat.le_trans hS.1 h)) (fun r29 ur29 t H1 locs ht hvm w30 hB hz1 hk1 hS => ?_)
          have hP := keepR hP hk1
          obtain ⟨w30, w30x⟩ := w30
          subst w30
          have hPc := hP.sub (ws' := [(h0, .inr (4, [.long u26, .ref sa, .ref aa])), (sa, .inl (G 1, 10, .inr (.inl u27))), (aa, .inl (G 1, 10, .inr (.inl u28)))]) [7, 8, 9] rfl
          have hDc := hD.sub (ws' := [(h0, .inr (4, [.long u26, .ref sa, .ref aa])), (sa, .inl (G 1, 10, .inr (.inl u27))), (aa, .inl (G 1, 10, .inr (.inl u28)))]) [7, 8, 9] (by decide) rfl
          have hFc := va_free (wc := [(h0, .inr (4, [.long u26, .ref sa, .ref aa])), (sa, .inl (G 1, 10, .inr (.inl u27))), (aa, .inl (G 1, 10, .inr (.inl u28)))]) hD hS hA [7, 8, 9] rfl
          refine va_callv (va_runV (As := [.int (hmO N B f1 f2 f3 f4 f5 f6 (nI j6))]) (rest := []) ⟨hx, hb, hml, hown, hg⟩ (c_X4_pass l dC dI G _ h0 sa aa (hmO N B f1 f2 f3 f4 f5 f6 (nI j6)) u26 u27 u28 ) (kwV hg mfX4_pass wt_630 ⟨Nat.le_of_ble_eq_true rfl, Nat.le_of_ble_eq_true rfl⟩) (preVW hK hPc hDc (ci := 4) rfl rfl) rfl rfl hl.1 rfl (lv_room (Nat.le_of_ble_eq_true rfl)) dX4_waking_34 ⟨Nat.le_of_ble_eq_true rfl, Nat.le_of_ble_eq_true rfl⟩) hS (fun q _ h => hFc q h) hFc (fun ur31 t H1 locs ht hvm w32 hB hz1 hk1 hS => ?_)
          obtain ⟨u33, u34, u35⟩ := ur31
          obtain ⟨hP1, hD1⟩ := hB
          rw [ht] at hP1
          obtain ⟨hP, hD⟩ := va_join (wr := [(wy, .inr (9, [.int (nI N), .int (nI B), .int (nI D), .ref a1, .ref a2, .ref a3, .ref a4, .ref a5, .ref a6])), (a1, .inl (G 0, 10, .inl f1)), (a2, .inl (G 0, 10, .inl f2)), (a3, .inl (G 0, 10, .inl f3)), (a4, .inl (G 0, 6, .inl f4)), (a5, .inl (G 0, 6, .inl f5)), (a6, .inl (G 0, 6, .inl f6))]) (w1 := [(h0, .inr (4, [.long u33, .ref sa, .ref aa])), (sa, .inl (G 1, 10, .inr (.inl u34))), (aa, .inl (G 1, 10, .inr (.inl u35)))]) hP hD [7, 8, 9] [0, 1, 2, 3, 4, 5, 6] rfl rfl (by decide) (by decide) hk1 hFc hP1 hD1
          generalize H1 = H at hP hS ⊢
          have hP : va_P (dC, dI) vwCl [(wy, .inr (9, [.int (nI N), .int (nI B), .int (nI D), .ref a1, .ref a2, .ref a3, .ref a4, .ref a5, .ref a6])), (a1, .inl (G 0, 10, .inl f1)), (a2, .inl (G 0, 10, .inl f2)), (a3, .inl (G 0, 10, .inl f3)), (a4, .inl (G 0, 6, .inl f4)), (a5, .inl (G 0, 6, .inl f5)), (a6, .inl (G 0, 6, .inl f6)), (h0, .inr (4, [.long u33, .ref sa, .ref aa])), (sa, .inl (G 1, 10, .inr (.inl u34))), (aa, .inl (G 1, 10, .inr (.inl u35)))] H := hP
          have hD : va_D A [(wy, .inr (9, [.int (nI N), .int (nI B), .int (nI D), .ref a1, .ref a2, .ref a3, .ref a4, .ref a5, .ref a6])), (a1, .inl (G 0, 10, .inl f1)), (a2, .inl (G 0, 10, .inl f2)), (a3, .inl (G 0, 10, .inl f3)), (a4, .inl (G 0, 6, .inl f4)), (a5, .inl (G 0, 6, .inl f5)), (a6, .inl (G 0, 6, .inl f6)), (h0, .inr (4, [.long u33, .ref sa, .ref aa])), (sa, .inl (G 1, 10, .inr (.inl u34))), (aa, .inl (G 1, 10, .inr (.inl u35)))] := hD
          refine lv_iinc (v := nI (j6 + 1)) (lv' := [(4, .int (nI (j6 + 1))), (0, .ref h0), (1, .ref wy), (2, .int (nI M)), (3, .int q1)]) hx hb dX4_waking_37 hl (k := 0) rfl (by rw [show Int32.ofInt 1 = nI 1 from by decide]; exact nI_add _ _) (by decide) rfl (fun ls hl => ?_)
          refine lv_goto (tgt := 11) hx hb dX4_waking_40 (by decide) ?_
          exact ih11_10 (j6 + 1) (by omega) (by omega) u33 u34 u35 _ _ hP hD hS ls (lv_sub hl [0, 1, 2, 3, 4] rfl)
  exact loop11_10 (M + 1) 0 (by omega) (by omega) u3 u4 u5 _ _ hP hD hS ls (lv_sub hl [0, 1, 2, 3, 4] rfl)
