def lmap (E : Nat → Int32) : Nat → Int32 := fun q => if E q = -1 then -4 else E q
theorem lmap_upd {E : Nat → Int32} {k : Nat} {lane : Int32} (h : ¬ lane = -1) : upd (lmap E) k lane = lmap (upd E k lane) := by
  funext q
  show (if q = k then lane else lmap E q) = (if (if q = k then lane else E q) = -1 then -4 else (if q = k then lane else E q))
  by_cases c : q = k
  · rw [if_pos c, if_pos c, if_neg h]
  · rw [if_neg c, if_neg c]; rfl
theorem lmap_step {E : Nat → Int32} {k lane n : Int32} : (if ((0 ≤ k.toInt ∧ k.toInt < 4) ∧ (0 ≤ lane.toInt ∧ lane.toInt ≤ 2) ∧ n.toInt ≤ 40 ∧ 0 ≤ n.toInt) then upd (lmap E) k.toNatClampNeg lane else lmap E) = lmap (if ((0 ≤ k.toInt ∧ k.toInt < 4) ∧ (0 ≤ lane.toInt ∧ lane.toInt ≤ 2) ∧ n.toInt ≤ 40 ∧ 0 ≤ n.toInt) then upd E k.toNatClampNeg lane else E) := by
  split
  · rename_i h
    exact lmap_upd (fun e => by rw [e] at h; exact absurd h.2.1.1 (by decide))
  · rfl
theorem E_inv {E : Nat → Int32} {k lane n : Int32} (h : ∀ q : Nat, q < 4 → E q = -1 ∨ (0 ≤ (E q).toInt ∧ (E q).toInt ≤ 2)) : ∀ q : Nat, q < 4 → (if ((0 ≤ k.toInt ∧ k.toInt < 4) ∧ (0 ≤ lane.toInt ∧ lane.toInt ≤ 2) ∧ n.toInt ≤ 40 ∧ 0 ≤ n.toInt) then upd E k.toNatClampNeg lane else E) q = -1 ∨ (0 ≤ ((if ((0 ≤ k.toInt ∧ k.toInt < 4) ∧ (0 ≤ lane.toInt ∧ lane.toInt ≤ 2) ∧ n.toInt ≤ 40 ∧ 0 ≤ n.toInt) then upd E k.toNatClampNeg lane else E) q).toInt ∧ ((if ((0 ≤ k.toInt ∧ k.toInt < 4) ∧ (0 ≤ lane.toInt ∧ lane.toInt ≤ 2) ∧ n.toInt ≤ 40 ∧ 0 ≤ n.toInt) then upd E k.toNatClampNeg lane else E) q).toInt ≤ 2) := by
  intro q hq
  split
  · rename_i c
    show (if q = k.toNatClampNeg then lane else E q) = -1 ∨ (0 ≤ (if q = k.toNatClampNeg then lane else E q).toInt ∧ (if q = k.toNatClampNeg then lane else E q).toInt ≤ 2)
    split
    · exact Or.inr c.2.1
    · exact h q hq
  · exact h q hq
theorem lay_eq {E Z : Nat → Int32} {k i : Int32} (h : ∀ q : Nat, q < 4 → E q = -1 ∨ (0 ≤ (E q).toInt ∧ (E q).toInt ≤ 2)) : (if 0 ≤ k.toInt ∧ k.toInt < 4 then (if lmap E k.toNatClampNeg = -4 then -11 else if 0 ≤ i.toInt ∧ i.toInt < (Z k.toNatClampNeg).toInt then 1 else -12) else -1) = (if 0 ≤ k.toInt ∧ k.toInt < 4 then (if E k.toNatClampNeg = -1 then -11 else if 0 ≤ i.toInt ∧ i.toInt < (Z k.toNatClampNeg).toInt then 1 else -12) else (-1 : Int32)) := by
  split
  · rename_i c
    obtain ⟨j, hj, rfl⟩ := i32_nat (x := k) (n := 4) c.1 (by omega)
    rw [nI_clamp (by omega)]
    have e : (lmap E j = -4) = (E j = -1) := by
      apply propext
      constructor
      · intro q
        rcases h j hj with a | a
        · exact a
        · exfalso
          have q' : (if E j = -1 then (-4 : Int32) else E j) = -4 := q
          split at q'
          · rename_i b; rw [b] at a; exact absurd a.1 (by decide)
          · rw [q'] at a; exact absurd a.1 (by decide)
      · intro q
        show (if E j = -1 then (-4 : Int32) else E j) = -4
        rw [if_pos q]
    by_cases d : E j = -1
    · rw [if_pos d, if_pos (e ▸ d)]
    · rw [if_neg d, if_neg (fun z => d (e ▸ z))]
  · rfl
theorem Met.pick {l : Launch} {y : MethodName} {ws : List Cond} {rm : Room} {P' : Array Value → State → Prop} {Q' : Array Value → State → Outcome → State → Prop} {mc ms : Nat} {F' : Addr → Prop} (h : ∀ (a : Array Value) (st : State), P' a st → ∃ (P : Array Value → State → Prop) (Q : Array Value → State → Outcome → State → Prop) (F : Addr → Prop), Met l y ws rm P Q mc ms F ∧ P a st ∧ (∀ q : Nat, F q → F' q) ∧ ∀ (o : Outcome) (t : State), Q a st o t → Q' a st o t) : Met l y ws rm P' Q' mc ms F' := by
  unfold Met MetFree
  intro p e h1 h2 h3 s m args below h4 h5 h6 h7
  obtain ⟨P, Q, F, hM, hP, hF, hQ⟩ := h args s h6
  unfold Met MetFree at hM
  obtain ⟨n, o, a1, a2, a3, a4, L, a5, a6⟩ := hM p e h1 h2 h3 s m args below h4 h5 hP trivial
  exact ⟨n, o, a1, a2, a3, hQ _ _ a4, L, a5, fun q hq => hF _ (a6 q hq)⟩
theorem vpc {D : va_G} {cl : List vw_C} {q : Nat × va_E} {ws : va_W} {H : Heap} (h : va_at D cl q H) (hw : va_P D cl ws H) : va_P D cl (q :: ws) H := by
  intro k x hk
  cases k with
  | zero =>
    have e : q = x := Option.some.inj hk
    subst e
    exact h
  | succ k => exact hw k x hk
theorem vp_mid {D : va_G} {cl : List vw_C} {X B Y : va_W} {H : Heap} (h : va_P D cl (X ++ (B ++ Y)) H) : va_P D cl B H := fun k q hk => h (X.length + k) q (by
  rw [List.getElem?_append_right (by omega), Nat.add_sub_cancel_left, List.getElem?_append_left (List.getElem?_eq_some_iff.mp hk).1]
  exact hk)
theorem vp_mid2 {D : va_G} {cl : List vw_C} {X A B Y : va_W} {H : Heap} (h : va_P D cl (X ++ (A ++ (B ++ Y))) H) : va_P D cl B H := vp_mid (X := X ++ A) (B := B) (Y := Y) (by rw [List.append_assoc]; exact h)
theorem blk_kept {D : va_G} {cl : List vw_C} {N : Nat} {f : Nat → Nat × va_E} {H H1 : Heap} (hb : va_P D cl ((List.range N).map f) H) (hk : ∀ i : Nat, i < N → (f i).1 < H.size → H1[(f i).1]? = H[(f i).1]?) : va_P D cl ((List.range N).map f) H1 :=
  hb.kept (fun k q hq => by
    have hlt := (hb k q hq).lt
    have hkN : k < N := by
      have h9 := (List.getElem?_eq_some_iff.mp hq).1
      simpa using h9
    have e : f k = q := by
      rw [List.getElem?_map, List.getElem?_range hkN] at hq
      exact Option.some.inj hq
    subst e
    exact hk k hkN hlt)
def adInj (n : Nat) (ax : Nat → Nat) : Prop := ∀ i j : Nat, i < n → j < n → ax i = ax j → i = j
def adX (lo hi : Nat) (ax : Nat → Nat) (sz : Nat) : Nat → Prop := fun q => (∃ i : Nat, lo ≤ i ∧ i < hi ∧ q = ax i) ∨ sz ≤ q
theorem ix_at {ax : Nat → Nat} {ws : va_W} (is : List Nat) (h : ws.map Prod.fst = is.map ax) {k : Nat} {q : Nat × va_E} (hq : ws[k]? = some q) : ∃ x : Nat, is[k]? = some x ∧ ax x = q.1 := by
  have a1 : (ws.map Prod.fst)[k]? = some q.1 := by rw [List.getElem?_map, hq]; rfl
  rw [h, List.getElem?_map] at a1
  cases e : is[k]? with
  | none => rw [e] at a1; cases a1
  | some x => rw [e] at a1; exact ⟨x, rfl, Option.some.inj a1⟩
theorem vD_ix {n : Nat} {ax : Nat → Nat} (hi : adInj n ax) {ws : va_W} (is : List Nat) (h : ws.map Prod.fst = is.map ax) (hl : is.all (fun x => decide (x < n)) = true) (hn : va_nd is = true) : va_D (fun _ => True) ws := by
  refine ⟨fun i j p q hp hq e => ?_, fun _ _ _ => trivial⟩
  obtain ⟨x, e1, f1⟩ := ix_at is h hp
  obtain ⟨y, e2, f2⟩ := ix_at is h hq
  have lx : x < n := of_decide_eq_true (List.all_eq_true.mp hl x (List.mem_of_getElem? e1))
  have ly : y < n := of_decide_eq_true (List.all_eq_true.mp hl y (List.mem_of_getElem? e2))
  have exy : x = y := hi x y lx ly (by rw [f1, f2, e])
  subst exy
  exact va_nd_inj is hn i j x e1 e2
theorem fr_ix {n lo hi : Nat} {ax : Nat → Nat} (hi' : adInj n ax) (hhi : hi ≤ n) {ws : va_W} {H H1 : Heap} (hk : ∀ q : Nat, q < H.size → ¬ va_A ws H.size q → H1[q]? = H[q]?) (is : List Nat) (h : ws.map Prod.fst = is.map ax) (hl : is.all (fun x => decide (x < n)) = true) (hb : is.all (fun x => decide (x < lo) || decide (hi ≤ x)) = true) : ∀ j : Nat, lo ≤ j → j < hi → ax j < H.size → H1[ax j]? = H[ax j]? := by
  intro j h1 h2 h3
  refine hk _ h3 (fun hA => ?_)
  rcases hA with ⟨k, e, hke⟩ | h4
  · obtain ⟨x, e1, f1⟩ := ix_at is h hke
    have hm := List.mem_of_getElem? e1
    have lx : x < n := of_decide_eq_true (List.all_eq_true.mp hl x hm)
    have exj : x = j := hi' x j lx (by omega) f1
    subst exj
    have b := List.all_eq_true.mp hb x hm
    rcases Bool.or_eq_true _ _ |>.mp b with b | b
    · have := of_decide_eq_true b; omega
    · have := of_decide_eq_true b; omega
  · omega
theorem ad_ix {lo hi : Nat} {ax : Nat → Nat} {ws : va_W} {sz : Nat} (is : List Nat) (h : ws.map Prod.fst = is.map ax) (hl : is.all (fun x => decide (lo ≤ x) && decide (x < hi)) = true) : ∀ q : Nat, va_A ws sz q → adX lo hi ax sz q := by
  intro q hA
  rcases hA with ⟨k, e, hke⟩ | h4
  · obtain ⟨x, e1, f1⟩ := ix_at is h hke
    have b := (Bool.and_eq_true _ _).mp (List.all_eq_true.mp hl x (List.mem_of_getElem? e1))
    exact Or.inl ⟨x, of_decide_eq_true b.1, of_decide_eq_true b.2, f1.symm⟩
  · exact Or.inr h4
theorem va_F.wide {A B : Nat → Prop} {st t : State} (hF : va_F A st t) (h : ∀ q : Nat, A q → B q) : va_F B st t := ⟨hF.1, fun q h1 h2 => hF.2 q h1 (fun h3 => h2 (h q h3))⟩
theorem fr_ad {n lo hi lo' hi' : Nat} {ax : Nat → Nat} (hi0 : adInj n ax) (hn : hi ≤ n) (hn' : hi' ≤ n) (hd : hi ≤ lo' ∨ hi' ≤ lo) {H H1 : Heap} (hk : ∀ q : Nat, q < H.size → ¬ adX lo hi ax H.size q → H1[q]? = H[q]?) : ∀ j : Nat, lo' ≤ j → j < hi' → ax j < H.size → H1[ax j]? = H[ax j]? := by
  intro j h1 h2 h3
  refine hk _ h3 (fun hA => ?_)
  rcases hA with ⟨i, a, b, c⟩ | h4
  · have := hi0 j i (by omega) (by omega) c
    omega
  · omega
def PcI (av : List Value) (dC : Nat → ClassId) (dI : Nat → Nat → Nat) (G : Nat → ClassId) (I : Heap → Prop) (sz : Nat) : Array Value → State → Prop := va_Pc av (fun U => U.heap.size = sz ∧ I U.heap ∧ KK dC dI G U)
def PcIS (av : List Value) (dC : Nat → ClassId) (dI : Nat → Nat → Nat) (G : Nat → ClassId) (I : Heap → Prop) (adK adV : Nat → Nat) (A : Nat → Prop) (sz : Nat) : Array Value → State → Prop := va_Pc av (fun U => U.heap.size = sz ∧ I U.heap ∧ KK dC dI G U ∧ SS adK adV A U U.heap)
theorem PcI.blind {av : List Value} {dC : Nat → ClassId} {dI : Nat → Nat → Nat} {G : Nat → ClassId} {I : Heap → Prop} {sz : Nat} : FrameBlind (PcI av dC dI G I sz) := fun a U g mk q => by
  obtain ⟨q0, q1, q2, q3⟩ := q
  exact ⟨q0, q1, q2, KK.calling (U := U) (V := U.calling g mk a) rfl q3⟩
theorem PcIS.blind {av : List Value} {dC : Nat → ClassId} {dI : Nat → Nat → Nat} {G : Nat → ClassId} {I : Heap → Prop} {adK adV : Nat → Nat} {A : Nat → Prop} {sz : Nat} : FrameBlind (PcIS av dC dI G I adK adV A sz) := fun a U g mk q => by
  obtain ⟨q0, q1, q2, q3, q4⟩ := q
  exact ⟨q0, q1, q2, KK.calling (U := U) (V := U.calling g mk a) rfl q3, SS.calling (U := U) (V := U.calling g mk a) rfl q4⟩
theorem preVI {s : State} {H : Heap} {As : List Value} {b : Nat} {dC : Nat → ClassId} {dI : Nat → Nat → Nat} {G : Nat → ClassId} {I : Heap → Prop} {C : String} (hK : KK dC dI G s) (hI : I H) (hr : ∃ cellB : Cell, H[b]? = some cellB ∧ cellB.vm.isStatics = false ∧ s.vm.findClass C = some cellB.cls) : PreV s H C b (PcI (.ref b :: As) dC dI G I H.size) As :=
  ⟨PcI.blind, hr, fun U hU hW => ⟨rfl, by rw [hU], by rw [hU]; exact hI, hK.warm hW⟩⟩
theorem preVIS {s : State} {H : Heap} {As : List Value} {b : Nat} {dC : Nat → ClassId} {dI : Nat → Nat → Nat} {G : Nat → ClassId} {I : Heap → Prop} {C : String} {adK adV : Nat → Nat} {A B : Nat → Prop} {locs : List Loc} (hK : KK dC dI G s) (hI : I H) (hr : ∃ cellB : Cell, H[b]? = some cellB ∧ cellB.vm.isStatics = false ∧ s.vm.findClass C = some cellB.cls) (hSS : SS adK adV A s s.heap) (hS : va_S A s.heap H locs) (hB : ∀ q : Nat, B q → A q) : PreV s H C b (PcIS (.ref b :: As) dC dI G I adK adV B H.size) As :=
  ⟨PcIS.blind, hr, fun U hU hW => ⟨rfl, by rw [hU], by rw [hU]; exact hI, hK.warm hW, hSS.go hS hB hU hW⟩⟩
theorem SS.narrow {adK adV : Nat → Nat} {A B : Nat → Prop} {U : State} {H : Heap} (h : SS adK adV A U H) (hB : ∀ q : Nat, B q → A q) : SS adK adV B U H := ⟨h.1.narrow hB, h.2.1, h.2.2.1.narrow hB, h.2.2.2.narrow hB⟩
def X10Pr (dC : Nat → ClassId) (dI : Nat → Nat → Nat) (G : Nat → ClassId) (ax : Nat → Nat) (fa : Int32) (H : Heap) : Prop := ∃ (zi0_13 : Int32), (va_at (dC, dI) vwCl (ax 0, .inr (10, [.ref (ax 1), .ref (ax 11), .ref (ax 18), .ref (ax 25), .ref (ax 40), .ref (ax 41), .ref (ax 44), .ref (ax 68), .ref (ax 69), .ref (ax 74), .ref (ax 77), .ref (ax 102), .int fa, .int zi0_13])) H)
theorem X10Pr.kept {dC : Nat → ClassId} {dI : Nat → Nat → Nat} {G : Nat → ClassId} {ax : Nat → Nat} {fa : Int32} {H H1 : Heap} (hk : ∀ j : Nat, 0 ≤ j → j < 1 → ax j < H.size → H1[ax j]? = H[ax j]?) (h : X10Pr dC dI G ax fa H) : X10Pr dC dI G ax fa H1 := by
  unfold X10Pr at h ⊢
  obtain ⟨zi0_13, q0⟩ := h
  exact ⟨zi0_13, q0.kept (hk 0 (by decide) (by decide) q0.lt)⟩
def X10P0 (dC : Nat → ClassId) (dI : Nat → Nat → Nat) (G : Nat → ClassId) (ax : Nat → Nat) (H : Heap) : Prop := ∃ (zi1_2 : Int32) (zi1_3 : Int32) (zi1_4 : Int32) (zi1_5 : Int32) (zi1_6 : Int32) (zi1_7 : Int32) (zi1_8 : Int32) (zi1_9 : Int32) (zi1_10 : Int32) (zi1_11 : Int32), (va_at (dC, dI) vwCl (ax 1, .inr (5, [.ref (ax 2), .ref (ax 4), .int zi1_2, .int zi1_3, .int zi1_4, .int zi1_5, .int zi1_6, .int zi1_7, .int zi1_8, .int zi1_9, .int zi1_10, .int zi1_11])) H)
theorem X10P0.kept {dC : Nat → ClassId} {dI : Nat → Nat → Nat} {G : Nat → ClassId} {ax : Nat → Nat} {H H1 : Heap} (hk : ∀ j : Nat, 1 ≤ j → j < 2 → ax j < H.size → H1[ax j]? = H[ax j]?) (h : X10P0 dC dI G ax H) : X10P0 dC dI G ax H1 := by
  unfold X10P0 at h ⊢
  obtain ⟨zi1_2, zi1_3, zi1_4, zi1_5, zi1_6, zi1_7, zi1_8, zi1_9, zi1_10, zi1_11, q1⟩ := h
  exact ⟨zi1_2, zi1_3, zi1_4, zi1_5, zi1_6, zi1_7, zi1_8, zi1_9, zi1_10, zi1_11, q1.kept (hk 1 (by decide) (by decide) q1.lt)⟩
def X10P0_0 (dC : Nat → ClassId) (dI : Nat → Nat → Nat) (G : Nat → ClassId) (ax : Nat → Nat) (T : Nat) (Y : Nat → Int32) (H : Heap) : Prop := (T ≤ 320) ∧ (va_at (dC, dI) vwCl (ax 2, .inr (7, [.int (nI T), .ref (ax 3)])) H) ∧ (va_at (dC, dI) vwCl (ax 3, .inl (G 0, 320, .inl Y)) H)
theorem X10P0_0.kept {dC : Nat → ClassId} {dI : Nat → Nat → Nat} {G : Nat → ClassId} {ax : Nat → Nat} {T : Nat} {Y : Nat → Int32} {H H1 : Heap} (hk : ∀ j : Nat, 2 ≤ j → j < 4 → ax j < H.size → H1[ax j]? = H[ax j]?) (h : X10P0_0 dC dI G ax T Y H) : X10P0_0 dC dI G ax T Y H1 := by
  unfold X10P0_0 at h ⊢
  obtain ⟨j0, q2, q3⟩ := h
  exact ⟨j0, q2.kept (hk 2 (by decide) (by decide) q2.lt), q3.kept (hk 3 (by decide) (by decide) q3.lt)⟩
def X10P0_1 (dC : Nat → ClassId) (dI : Nat → Nat → Nat) (G : Nat → ClassId) (ax : Nat → Nat) (H : Heap) : Prop := ∃ (zn4_0 : Nat) (zn4_1 : Nat) (zn4_2 : Nat) (zf5 : Nat → Int32) (zf6 : Nat → Int32) (zf7 : Nat → Int32) (zf8 : Nat → Int32) (zf9 : Nat → Int32) (zf10 : Nat → Int32), (zn4_0 ≤ 10) ∧ (zn4_1 ≤ 6) ∧ (1 ≤ zn4_2 ∧ zn4_2 ≤ 9) ∧ (va_at (dC, dI) vwCl (ax 4, .inr (9, [.int (nI zn4_0), .int (nI zn4_1), .int (nI zn4_2), .ref (ax 5), .ref (ax 6), .ref (ax 7), .ref (ax 8), .ref (ax 9), .ref (ax 10)])) H) ∧ (va_at (dC, dI) vwCl (ax 5, .inl (G 0, 10, .inl zf5)) H) ∧ (va_at (dC, dI) vwCl (ax 6, .inl (G 0, 10, .inl zf6)) H) ∧ (va_at (dC, dI) vwCl (ax 7, .inl (G 0, 10, .inl zf7)) H) ∧ (va_at (dC, dI) vwCl (ax 8, .inl (G 0, 6, .inl zf8)) H) ∧ (va_at (dC, dI) vwCl (ax 9, .inl (G 0, 6, .inl zf9)) H) ∧ (va_at (dC, dI) vwCl (ax 10, .inl (G 0, 6, .inl zf10)) H)
theorem X10P0_1.kept {dC : Nat → ClassId} {dI : Nat → Nat → Nat} {G : Nat → ClassId} {ax : Nat → Nat} {H H1 : Heap} (hk : ∀ j : Nat, 4 ≤ j → j < 11 → ax j < H.size → H1[ax j]? = H[ax j]?) (h : X10P0_1 dC dI G ax H) : X10P0_1 dC dI G ax H1 := by
  unfold X10P0_1 at h ⊢
  obtain ⟨zn4_0, zn4_1, zn4_2, zf5, zf6, zf7, zf8, zf9, zf10, j0, j1, j2, q4, q5, q6, q7, q8, q9, q10⟩ := h
  exact ⟨zn4_0, zn4_1, zn4_2, zf5, zf6, zf7, zf8, zf9, zf10, j0, j1, j2, q4.kept (hk 4 (by decide) (by decide) q4.lt), q5.kept (hk 5 (by decide) (by decide) q5.lt), q6.kept (hk 6 (by decide) (by decide) q6.lt), q7.kept (hk 7 (by decide) (by decide) q7.lt), q8.kept (hk 8 (by decide) (by decide) q8.lt), q9.kept (hk 9 (by decide) (by decide) q9.lt), q10.kept (hk 10 (by decide) (by decide) q10.lt)⟩
def X10P1 (dC : Nat → ClassId) (dI : Nat → Nat → Nat) (G : Nat → ClassId) (ax : Nat → Nat) (N : Nat) (B : Nat) (H : Heap) : Prop := ∃ (zn11_2 : Nat) (zf12 : Nat → Int32) (zf13 : Nat → Int32) (zf14 : Nat → Int32) (zf15 : Nat → Int32) (zf16 : Nat → Int32) (zf17 : Nat → Int32), (N ≤ 10) ∧ (B ≤ 6) ∧ (1 ≤ zn11_2 ∧ zn11_2 ≤ 9) ∧ (va_at (dC, dI) vwCl (ax 11, .inr (9, [.int (nI N), .int (nI B), .int (nI zn11_2), .ref (ax 12), .ref (ax 13), .ref (ax 14), .ref (ax 15), .ref (ax 16), .ref (ax 17)])) H) ∧ (va_at (dC, dI) vwCl (ax 12, .inl (G 0, 10, .inl zf12)) H) ∧ (va_at (dC, dI) vwCl (ax 13, .inl (G 0, 10, .inl zf13)) H) ∧ (va_at (dC, dI) vwCl (ax 14, .inl (G 0, 10, .inl zf14)) H) ∧ (va_at (dC, dI) vwCl (ax 15, .inl (G 0, 6, .inl zf15)) H) ∧ (va_at (dC, dI) vwCl (ax 16, .inl (G 0, 6, .inl zf16)) H) ∧ (va_at (dC, dI) vwCl (ax 17, .inl (G 0, 6, .inl zf17)) H)
theorem X10P1.kept {dC : Nat → ClassId} {dI : Nat → Nat → Nat} {G : Nat → ClassId} {ax : Nat → Nat} {N : Nat} {B : Nat} {H H1 : Heap} (hk : ∀ j : Nat, 11 ≤ j → j < 18 → ax j < H.size → H1[ax j]? = H[ax j]?) (h : X10P1 dC dI G ax N B H) : X10P1 dC dI G ax N B H1 := by
  unfold X10P1 at h ⊢
  obtain ⟨zn11_2, zf12, zf13, zf14, zf15, zf16, zf17, j0, j1, j2, q11, q12, q13, q14, q15, q16, q17⟩ := h
  exact ⟨zn11_2, zf12, zf13, zf14, zf15, zf16, zf17, j0, j1, j2, q11.kept (hk 11 (by decide) (by decide) q11.lt), q12.kept (hk 12 (by decide) (by decide) q12.lt), q13.kept (hk 13 (by decide) (by decide) q13.lt), q14.kept (hk 14 (by decide) (by decide) q14.lt), q15.kept (hk 15 (by decide) (by decide) q15.lt), q16.kept (hk 16 (by decide) (by decide) q16.lt), q17.kept (hk 17 (by decide) (by decide) q17.lt)⟩
def X10P2 (dC : Nat → ClassId) (dI : Nat → Nat → Nat) (G : Nat → ClassId) (ax : Nat → Nat) (H : Heap) : Prop := ∃ (zn18_0 : Nat) (zn18_1 : Nat) (zn18_2 : Nat) (zf19 : Nat → Int32) (zf20 : Nat → Int32) (zf21 : Nat → Int32) (zf22 : Nat → Int32) (zf23 : Nat → Int32) (zf24 : Nat → Int32), (zn18_0 ≤ 10) ∧ (zn18_1 ≤ 6) ∧ (1 ≤ zn18_2 ∧ zn18_2 ≤ 9) ∧ (va_at (dC, dI) vwCl (ax 18, .inr (9, [.int (nI zn18_0), .int (nI zn18_1), .int (nI zn18_2), .ref (ax 19), .ref (ax 20), .ref (ax 21), .ref (ax 22), .ref (ax 23), .ref (ax 24)])) H) ∧ (va_at (dC, dI) vwCl (ax 19, .inl (G 0, 10, .inl zf19)) H) ∧ (va_at (dC, dI) vwCl (ax 20, .inl (G 0, 10, .inl zf20)) H) ∧ (va_at (dC, dI) vwCl (ax 21, .inl (G 0, 10, .inl zf21)) H) ∧ (va_at (dC, dI) vwCl (ax 22, .inl (G 0, 6, .inl zf22)) H) ∧ (va_at (dC, dI) vwCl (ax 23, .inl (G 0, 6, .inl zf23)) H) ∧ (va_at (dC, dI) vwCl (ax 24, .inl (G 0, 6, .inl zf24)) H)
theorem X10P2.kept {dC : Nat → ClassId} {dI : Nat → Nat → Nat} {G : Nat → ClassId} {ax : Nat → Nat} {H H1 : Heap} (hk : ∀ j : Nat, 18 ≤ j → j < 25 → ax j < H.size → H1[ax j]? = H[ax j]?) (h : X10P2 dC dI G ax H) : X10P2 dC dI G ax H1 := by
  unfold X10P2 at h ⊢
  obtain ⟨zn18_0, zn18_1, zn18_2, zf19, zf20, zf21, zf22, zf23, zf24, j0, j1, j2, q18, q19, q20, q21, q22, q23, q24⟩ := h
  exact ⟨zn18_0, zn18_1, zn18_2, zf19, zf20, zf21, zf22, zf23, zf24, j0, j1, j2, q18.kept (hk 18 (by decide) (by decide) q18.lt), q19.kept (hk 19 (by decide) (by decide) q19.lt), q20.kept (hk 20 (by decide) (by decide) q20.lt), q21.kept (hk 21 (by decide) (by decide) q21.lt), q22.kept (hk 22 (by decide) (by decide) q22.lt), q23.kept (hk 23 (by decide) (by decide) q23.lt), q24.kept (hk 24 (by decide) (by decide) q24.lt)⟩
def X10P3 (dC : Nat → ClassId) (dI : Nat → Nat → Nat) (G : Nat → ClassId) (ax : Nat → Nat) (H : Heap) : Prop := (va_at (dC, dI) vwCl (ax 25, .inl (G 3, 2, .inr (.inr (.inr (.inr (va_up (va_up (fun _ => none) 0 (some (ax 26))) 1 (some (ax 33)))))))) H)
theorem X10P3.kept {dC : Nat → ClassId} {dI : Nat → Nat → Nat} {G : Nat → ClassId} {ax : Nat → Nat} {H H1 : Heap} (hk : ∀ j : Nat, 25 ≤ j → j < 26 → ax j < H.size → H1[ax j]? = H[ax j]?) (h : X10P3 dC dI G ax H) : X10P3 dC dI G ax H1 := by
  unfold X10P3 at h ⊢
  have q25 := h
  exact q25.kept (hk 25 (by decide) (by decide) q25.lt)
def X10P3_0 (dC : Nat → ClassId) (dI : Nat → Nat → Nat) (G : Nat → ClassId) (ax : Nat → Nat) (N1 : Nat) (B1 : Nat) (H : Heap) : Prop := ∃ (zn26_2 : Nat) (zf27 : Nat → Int32) (zf28 : Nat → Int32) (zf29 : Nat → Int32) (zf30 : Nat → Int32) (zf31 : Nat → Int32) (zf32 : Nat → Int32), (N1 ≤ 10) ∧ (B1 ≤ 6) ∧ (1 ≤ zn26_2 ∧ zn26_2 ≤ 9) ∧ (va_at (dC, dI) vwCl (ax 26, .inr (9, [.int (nI N1), .int (nI B1), .int (nI zn26_2), .ref (ax 27), .ref (ax 28), .ref (ax 29), .ref (ax 30), .ref (ax 31), .ref (ax 32)])) H) ∧ (va_at (dC, dI) vwCl (ax 27, .inl (G 0, 10, .inl zf27)) H) ∧ (va_at (dC, dI) vwCl (ax 28, .inl (G 0, 10, .inl zf28)) H) ∧ (va_at (dC, dI) vwCl (ax 29, .inl (G 0, 10, .inl zf29)) H) ∧ (va_at (dC, dI) vwCl (ax 30, .inl (G 0, 6, .inl zf30)) H) ∧ (va_at (dC, dI) vwCl (ax 31, .inl (G 0, 6, .inl zf31)) H) ∧ (va_at (dC, dI) vwCl (ax 32, .inl (G 0, 6, .inl zf32)) H)
theorem X10P3_0.kept {dC : Nat → ClassId} {dI : Nat → Nat → Nat} {G : Nat → ClassId} {ax : Nat → Nat} {N1 : Nat} {B1 : Nat} {H H1 : Heap} (hk : ∀ j : Nat, 26 ≤ j → j < 33 → ax j < H.size → H1[ax j]? = H[ax j]?) (h : X10P3_0 dC dI G ax N1 B1 H) : X10P3_0 dC dI G ax N1 B1 H1 := by
  unfold X10P3_0 at h ⊢
  obtain ⟨zn26_2, zf27, zf28, zf29, zf30, zf31, zf32, j0, j1, j2, q26, q27, q28, q29, q30, q31, q32⟩ := h
  exact ⟨zn26_2, zf27, zf28, zf29, zf30, zf31, zf32, j0, j1, j2, q26.kept (hk 26 (by decide) (by decide) q26.lt), q27.kept (hk 27 (by decide) (by decide) q27.lt), q28.kept (hk 28 (by decide) (by decide) q28.lt), q29.kept (hk 29 (by decide) (by decide) q29.lt), q30.kept (hk 30 (by decide) (by decide) q30.lt), q31.kept (hk 31 (by decide) (by decide) q31.lt), q32.kept (hk 32 (by decide) (by decide) q32.lt)⟩
def X10P3_1 (dC : Nat → ClassId) (dI : Nat → Nat → Nat) (G : Nat → ClassId) (ax : Nat → Nat) (N2 : Nat) (B2 : Nat) (H : Heap) : Prop := ∃ (zn33_2 : Nat) (zf34 : Nat → Int32) (zf35 : Nat → Int32) (zf36 : Nat → Int32) (zf37 : Nat → Int32) (zf38 : Nat → Int32) (zf39 : Nat → Int32), (N2 ≤ 10) ∧ (B2 ≤ 6) ∧ (1 ≤ zn33_2 ∧ zn33_2 ≤ 9) ∧ (va_at (dC, dI) vwCl (ax 33, .inr (9, [.int (nI N2), .int (nI B2), .int (nI zn33_2), .ref (ax 34), .ref (ax 35), .ref (ax 36), .ref (ax 37), .ref (ax 38), .ref (ax 39)])) H) ∧ (va_at (dC, dI) vwCl (ax 34, .inl (G 0, 10, .inl zf34)) H) ∧ (va_at (dC, dI) vwCl (ax 35, .inl (G 0, 10, .inl zf35)) H) ∧ (va_at (dC, dI) vwCl (ax 36, .inl (G 0, 10, .inl zf36)) H) ∧ (va_at (dC, dI) vwCl (ax 37, .inl (G 0, 6, .inl zf37)) H) ∧ (va_at (dC, dI) vwCl (ax 38, .inl (G 0, 6, .inl zf38)) H) ∧ (va_at (dC, dI) vwCl (ax 39, .inl (G 0, 6, .inl zf39)) H)
theorem X10P3_1.kept {dC : Nat → ClassId} {dI : Nat → Nat → Nat} {G : Nat → ClassId} {ax : Nat → Nat} {N2 : Nat} {B2 : Nat} {H H1 : Heap} (hk : ∀ j : Nat, 33 ≤ j → j < 40 → ax j < H.size → H1[ax j]? = H[ax j]?) (h : X10P3_1 dC dI G ax N2 B2 H) : X10P3_1 dC dI G ax N2 B2 H1 := by
  unfold X10P3_1 at h ⊢
  obtain ⟨zn33_2, zf34, zf35, zf36, zf37, zf38, zf39, j0, j1, j2, q33, q34, q35, q36, q37, q38, q39⟩ := h
  exact ⟨zn33_2, zf34, zf35, zf36, zf37, zf38, zf39, j0, j1, j2, q33.kept (hk 33 (by decide) (by decide) q33.lt), q34.kept (hk 34 (by decide) (by decide) q34.lt), q35.kept (hk 35 (by decide) (by decide) q35.lt), q36.kept (hk 36 (by decide) (by decide) q36.lt), q37.kept (hk 37 (by decide) (by decide) q37.lt), q38.kept (hk 38 (by decide) (by decide) q38.lt), q39.kept (hk 39 (by decide) (by decide) q39.lt)⟩
def X10P4 (dC : Nat → ClassId) (dI : Nat → Nat → Nat) (G : Nat → ClassId) (ax : Nat → Nat) (K : Nat → Int32) (H : Heap) : Prop := (va_at (dC, dI) vwCl (ax 40, .inl (G 2, 2, .inl K)) H)
theorem X10P4.kept {dC : Nat → ClassId} {dI : Nat → Nat → Nat} {G : Nat → ClassId} {ax : Nat → Nat} {K : Nat → Int32} {H H1 : Heap} (hk : ∀ j : Nat, 40 ≤ j → j < 41 → ax j < H.size → H1[ax j]? = H[ax j]?) (h : X10P4 dC dI G ax K H) : X10P4 dC dI G ax K H1 := by
  unfold X10P4 at h ⊢
  have q40 := h
  exact q40.kept (hk 40 (by decide) (by decide) q40.lt)
def X10P5 (dC : Nat → ClassId) (dI : Nat → Nat → Nat) (G : Nat → ClassId) (ax : Nat → Nat) (H : Heap) : Prop := ∃ (zl41_0 : Int64) (zf42 : Nat → Int64) (zf43 : Nat → Int64), (va_at (dC, dI) vwCl (ax 41, .inr (4, [.long zl41_0, .ref (ax 42), .ref (ax 43)])) H) ∧ (va_at (dC, dI) vwCl (ax 42, .inl (G 1, 10, .inr (.inl zf42))) H) ∧ (va_at (dC, dI) vwCl (ax 43, .inl (G 1, 10, .inr (.inl zf43))) H)
theorem X10P5.kept {dC : Nat → ClassId} {dI : Nat → Nat → Nat} {G : Nat → ClassId} {ax : Nat → Nat} {H H1 : Heap} (hk : ∀ j : Nat, 41 ≤ j → j < 44 → ax j < H.size → H1[ax j]? = H[ax j]?) (h : X10P5 dC dI G ax H) : X10P5 dC dI G ax H1 := by
  unfold X10P5 at h ⊢
  obtain ⟨zl41_0, zf42, zf43, q41, q42, q43⟩ := h
  exact ⟨zl41_0, zf42, zf43, q41.kept (hk 41 (by decide) (by decide) q41.lt), q42.kept (hk 42 (by decide) (by decide) q42.lt), q43.kept (hk 43 (by decide) (by decide) q43.lt)⟩
def X10P6 (dC : Nat → ClassId) (dI : Nat → Nat → Nat) (G : Nat → ClassId) (ax : Nat → Nat) (H : Heap) : Prop := ∃ (zl44_0 : Int64) (zF47 : Nat → Nat → Int64) (zF58 : Nat → Nat → Int32), (va_at (dC, dI) vwCl (ax 44, .inr (0, [.long zl44_0, .ref (ax 45), .ref (ax 46)])) H) ∧ (va_at (dC, dI) vwCl (ax 45, .inl (G 5, 11, .inr (.inr (.inr (.inr (fun ir => if ir < 11 then some (ax (47 + ir)) else none)))))) H) ∧ (va_at (dC, dI) vwCl (ax 46, .inl (G 4, 10, .inr (.inr (.inr (.inr (fun ir => if ir < 10 then some (ax (58 + ir)) else none)))))) H) ∧ (va_P (dC, dI) vwCl (((List.range 11).map (fun iq => (ax (47 + iq), .inl (G 1, 70, .inr (.inl (zF47 iq)))))) : va_W) H) ∧ (va_P (dC, dI) vwCl (((List.range 10).map (fun iq => (ax (58 + iq), .inl (G 0, 70, .inl (zF58 iq))))) : va_W) H)
theorem X10P6.kept {dC : Nat → ClassId} {dI : Nat → Nat → Nat} {G : Nat → ClassId} {ax : Nat → Nat} {H H1 : Heap} (hk : ∀ j : Nat, 44 ≤ j → j < 68 → ax j < H.size → H1[ax j]? = H[ax j]?) (h : X10P6 dC dI G ax H) : X10P6 dC dI G ax H1 := by
  unfold X10P6 at h ⊢
  obtain ⟨zl44_0, zF47, zF58, q44, q45, q46, q47, q58⟩ := h
  exact ⟨zl44_0, zF47, zF58, q44.kept (hk 44 (by decide) (by decide) q44.lt), q45.kept (hk 45 (by decide) (by decide) q45.lt), q46.kept (hk 46 (by decide) (by decide) q46.lt), blk_kept q47 (fun i h1 h2 => hk (47 + i) (by omega) (by omega) h2), blk_kept q58 (fun i h1 h2 => hk (58 + i) (by omega) (by omega) h2)⟩
def X10P7 (dC : Nat → ClassId) (dI : Nat → Nat → Nat) (G : Nat → ClassId) (ax : Nat → Nat) (H : Heap) : Prop := ∃ (zi68_0 : Int32) (zi68_1 : Int32) (zi68_2 : Int32), (va_at (dC, dI) vwCl (ax 68, .inr (1, [.int zi68_0, .int zi68_1, .int zi68_2])) H)
theorem X10P7.kept {dC : Nat → ClassId} {dI : Nat → Nat → Nat} {G : Nat → ClassId} {ax : Nat → Nat} {H H1 : Heap} (hk : ∀ j : Nat, 68 ≤ j → j < 69 → ax j < H.size → H1[ax j]? = H[ax j]?) (h : X10P7 dC dI G ax H) : X10P7 dC dI G ax H1 := by
  unfold X10P7 at h ⊢
  obtain ⟨zi68_0, zi68_1, zi68_2, q68⟩ := h
  exact ⟨zi68_0, zi68_1, zi68_2, q68.kept (hk 68 (by decide) (by decide) q68.lt)⟩
def X10P8 (dC : Nat → ClassId) (dI : Nat → Nat → Nat) (G : Nat → ClassId) (ax : Nat → Nat) (S : Nat) (H : Heap) : Prop := ∃ (zf70 : Nat → Int32) (zf71 : Nat → Int32) (zf72 : Nat → Int32) (zf73 : Nat → Int32), (S ≤ 8) ∧ (va_at (dC, dI) vwCl (ax 69, .inr (2, [.int (nI S), .ref (ax 70), .ref (ax 71), .ref (ax 72), .ref (ax 73)])) H) ∧ (va_at (dC, dI) vwCl (ax 70, .inl (G 0, 8, .inl zf70)) H) ∧ (va_at (dC, dI) vwCl (ax 71, .inl (G 0, 8, .inl zf71)) H) ∧ (va_at (dC, dI) vwCl (ax 72, .inl (G 0, 8, .inl zf72)) H) ∧ (va_at (dC, dI) vwCl (ax 73, .inl (G 0, 8, .inl zf73)) H)
theorem X10P8.kept {dC : Nat → ClassId} {dI : Nat → Nat → Nat} {G : Nat → ClassId} {ax : Nat → Nat} {S : Nat} {H H1 : Heap} (hk : ∀ j : Nat, 69 ≤ j → j < 74 → ax j < H.size → H1[ax j]? = H[ax j]?) (h : X10P8 dC dI G ax S H) : X10P8 dC dI G ax S H1 := by
  unfold X10P8 at h ⊢
  obtain ⟨zf70, zf71, zf72, zf73, j0, q69, q70, q71, q72, q73⟩ := h
  exact ⟨zf70, zf71, zf72, zf73, j0, q69.kept (hk 69 (by decide) (by decide) q69.lt), q70.kept (hk 70 (by decide) (by decide) q70.lt), q71.kept (hk 71 (by decide) (by decide) q71.lt), q72.kept (hk 72 (by decide) (by decide) q72.lt), q73.kept (hk 73 (by decide) (by decide) q73.lt)⟩
def X10P9 (dC : Nat → ClassId) (dI : Nat → Nat → Nat) (G : Nat → ClassId) (ax : Nat → Nat) (M : Nat) (H : Heap) : Prop := ∃ (zf75 : Nat → Int32) (zf76 : Nat → Int32), (M ≤ 6) ∧ (va_at (dC, dI) vwCl (ax 74, .inr (3, [.int (nI M), .ref (ax 75), .ref (ax 76)])) H) ∧ (va_at (dC, dI) vwCl (ax 75, .inl (G 0, 6, .inl zf75)) H) ∧ (va_at (dC, dI) vwCl (ax 76, .inl (G 0, 6, .inl zf76)) H)
theorem X10P9.kept {dC : Nat → ClassId} {dI : Nat → Nat → Nat} {G : Nat → ClassId} {ax : Nat → Nat} {M : Nat} {H H1 : Heap} (hk : ∀ j : Nat, 74 ≤ j → j < 77 → ax j < H.size → H1[ax j]? = H[ax j]?) (h : X10P9 dC dI G ax M H) : X10P9 dC dI G ax M H1 := by
  unfold X10P9 at h ⊢
  obtain ⟨zf75, zf76, j0, q74, q75, q76⟩ := h
  exact ⟨zf75, zf76, j0, q74.kept (hk 74 (by decide) (by decide) q74.lt), q75.kept (hk 75 (by decide) (by decide) q75.lt), q76.kept (hk 76 (by decide) (by decide) q76.lt)⟩
def X10P10 (dC : Nat → ClassId) (dI : Nat → Nat → Nat) (G : Nat → ClassId) (ax : Nat → Nat) (H : Heap) : Prop := ∃ (zi77_0 : Int32) (zF80 : Nat → Nat → Int32) (zF91 : Nat → Nat → Int32), (va_at (dC, dI) vwCl (ax 77, .inr (8, [.int zi77_0, .ref (ax 78), .ref (ax 79)])) H) ∧ (va_at (dC, dI) vwCl (ax 78, .inl (G 4, 11, .inr (.inr (.inr (.inr (fun ir => if ir < 11 then some (ax (80 + ir)) else none)))))) H) ∧ (va_at (dC, dI) vwCl (ax 79, .inl (G 4, 11, .inr (.inr (.inr (.inr (fun ir => if ir < 11 then some (ax (91 + ir)) else none)))))) H) ∧ (va_P (dC, dI) vwCl (((List.range 11).map (fun iq => (ax (80 + iq), .inl (G 0, 10, .inl (zF80 iq))))) : va_W) H) ∧ (va_P (dC, dI) vwCl (((List.range 11).map (fun iq => (ax (91 + iq), .inl (G 0, 10, .inl (zF91 iq))))) : va_W) H)
theorem X10P10.kept {dC : Nat → ClassId} {dI : Nat → Nat → Nat} {G : Nat → ClassId} {ax : Nat → Nat} {H H1 : Heap} (hk : ∀ j : Nat, 77 ≤ j → j < 102 → ax j < H.size → H1[ax j]? = H[ax j]?) (h : X10P10 dC dI G ax H) : X10P10 dC dI G ax H1 := by
  unfold X10P10 at h ⊢
  obtain ⟨zi77_0, zF80, zF91, q77, q78, q79, q80, q91⟩ := h
  exact ⟨zi77_0, zF80, zF91, q77.kept (hk 77 (by decide) (by decide) q77.lt), q78.kept (hk 78 (by decide) (by decide) q78.lt), q79.kept (hk 79 (by decide) (by decide) q79.lt), blk_kept q80 (fun i h1 h2 => hk (80 + i) (by omega) (by omega) h2), blk_kept q91 (fun i h1 h2 => hk (91 + i) (by omega) (by omega) h2)⟩
def X10P11 (dC : Nat → ClassId) (dI : Nat → Nat → Nat) (G : Nat → ClassId) (ax : Nat → Nat) (E : Nat → Int32) (Z : Nat → Int32) (H : Heap) : Prop := ∃ (zi102_3 : Int32) (zi102_4 : Int32) (zf106 : Nat → Int32) (zf107 : Nat → Int32) (zF108 : Nat → Nat → Int32), (∀ q : Nat, q < 4 → E q = -1 ∨ (0 ≤ (E q).toInt ∧ (E q).toInt ≤ 2)) ∧ (∀ q : Nat, q < 4 → 0 ≤ (Z q).toInt ∧ (Z q).toInt ≤ 40) ∧ (va_at (dC, dI) vwCl (ax 102, .inr (6, [.ref (ax 103), .ref (ax 104), .ref (ax 105), .int zi102_3, .int zi102_4, .ref (ax 106), .ref (ax 107)])) H) ∧ (va_at (dC, dI) vwCl (ax 103, .inl (G 0, 4, .inl E)) H) ∧ (va_at (dC, dI) vwCl (ax 104, .inl (G 0, 4, .inl Z)) H) ∧ (va_at (dC, dI) vwCl (ax 105, .inl (G 4, 4, .inr (.inr (.inr (.inr (fun ir => if ir < 4 then some (ax (108 + ir)) else none)))))) H) ∧ (va_at (dC, dI) vwCl (ax 106, .inl (G 0, 20, .inl zf106)) H) ∧ (va_at (dC, dI) vwCl (ax 107, .inl (G 0, 20, .inl zf107)) H) ∧ (va_P (dC, dI) vwCl (((List.range 4).map (fun iq => (ax (108 + iq), .inl (G 0, 40, .inl (zF108 iq))))) : va_W) H)
theorem X10P11.kept {dC : Nat → ClassId} {dI : Nat → Nat → Nat} {G : Nat → ClassId} {ax : Nat → Nat} {E : Nat → Int32} {Z : Nat → Int32} {H H1 : Heap} (hk : ∀ j : Nat, 102 ≤ j → j < 112 → ax j < H.size → H1[ax j]? = H[ax j]?) (h : X10P11 dC dI G ax E Z H) : X10P11 dC dI G ax E Z H1 := by
  unfold X10P11 at h ⊢
  obtain ⟨zi102_3, zi102_4, zf106, zf107, zF108, j0, j1, q102, q103, q104, q105, q106, q107, q108⟩ := h
  exact ⟨zi102_3, zi102_4, zf106, zf107, zF108, j0, j1, q102.kept (hk 102 (by decide) (by decide) q102.lt), q103.kept (hk 103 (by decide) (by decide) q103.lt), q104.kept (hk 104 (by decide) (by decide) q104.lt), q105.kept (hk 105 (by decide) (by decide) q105.lt), q106.kept (hk 106 (by decide) (by decide) q106.lt), q107.kept (hk 107 (by decide) (by decide) q107.lt), blk_kept q108 (fun i h1 h2 => hk (108 + i) (by omega) (by omega) h2)⟩
def X10I (dC : Nat → ClassId) (dI : Nat → Nat → Nat) (G : Nat → ClassId) (ax : Nat → Nat) (T : Nat) (Y : Nat → Int32) (fa : Int32) (N : Nat) (B : Nat) (N1 : Nat) (B1 : Nat) (N2 : Nat) (B2 : Nat) (K : Nat → Int32) (S : Nat) (M : Nat) (E : Nat → Int32) (Z : Nat → Int32) (H : Heap) : Prop := X10Pr dC dI G ax fa H ∧ X10P0 dC dI G ax H ∧ X10P0_0 dC dI G ax T Y H ∧ X10P0_1 dC dI G ax H ∧ X10P1 dC dI G ax N B H ∧ X10P2 dC dI G ax H ∧ X10P3 dC dI G ax H ∧ X10P3_0 dC dI G ax N1 B1 H ∧ X10P3_1 dC dI G ax N2 B2 H ∧ X10P4 dC dI G ax K H ∧ X10P5 dC dI G ax H ∧ X10P6 dC dI G ax H ∧ X10P7 dC dI G ax H ∧ X10P8 dC dI G ax S H ∧ X10P9 dC dI G ax M H ∧ X10P10 dC dI G ax H ∧ X10P11 dC dI G ax E Z H ∧ XIN N B K N1 B1 N2 B2
theorem X10I.kept {dC : Nat → ClassId} {dI : Nat → Nat → Nat} {G : Nat → ClassId} {ax : Nat → Nat} {T : Nat} {Y : Nat → Int32} {fa : Int32} {N : Nat} {B : Nat} {N1 : Nat} {B1 : Nat} {N2 : Nat} {B2 : Nat} {K : Nat → Int32} {S : Nat} {M : Nat} {E : Nat → Int32} {Z : Nat → Int32} {H H1 : Heap} (hk : ∀ j : Nat, 0 ≤ j → j < 112 → ax j < H.size → H1[ax j]? = H[ax j]?) (h : X10I dC dI G ax T Y fa N B N1 B1 N2 B2 K S M E Z H) : X10I dC dI G ax T Y fa N B N1 B1 N2 B2 K S M E Z H1 := by
  unfold X10I at h ⊢
  obtain ⟨p0, p1, p2, p3, p4, p5, p6, p7, p8, p9, p10, p11, p12, p13, p14, p15, p16, hX⟩ := h
  exact ⟨p0.kept (fun j h1 h2 => hk j (by omega) (by omega)), p1.kept (fun j h1 h2 => hk j (by omega) (by omega)), p2.kept (fun j h1 h2 => hk j (by omega) (by omega)), p3.kept (fun j h1 h2 => hk j (by omega) (by omega)), p4.kept (fun j h1 h2 => hk j (by omega) (by omega)), p5.kept (fun j h1 h2 => hk j (by omega) (by omega)), p6.kept (fun j h1 h2 => hk j (by omega) (by omega)), p7.kept (fun j h1 h2 => hk j (by omega) (by omega)), p8.kept (fun j h1 h2 => hk j (by omega) (by omega)), p9.kept (fun j h1 h2 => hk j (by omega) (by omega)), p10.kept (fun j h1 h2 => hk j (by omega) (by omega)), p11.kept (fun j h1 h2 => hk j (by omega) (by omega)), p12.kept (fun j h1 h2 => hk j (by omega) (by omega)), p13.kept (fun j h1 h2 => hk j (by omega) (by omega)), p14.kept (fun j h1 h2 => hk j (by omega) (by omega)), p15.kept (fun j h1 h2 => hk j (by omega) (by omega)), p16.kept (fun j h1 h2 => hk j (by omega) (by omega)), hX⟩
theorem X10I.recv {dC : Nat → ClassId} {dI : Nat → Nat → Nat} {G : Nat → ClassId} {ax : Nat → Nat} {T : Nat} {Y : Nat → Int32} {fa : Int32} {N : Nat} {B : Nat} {N1 : Nat} {B1 : Nat} {N2 : Nat} {B2 : Nat} {K : Nat → Int32} {S : Nat} {M : Nat} {E : Nat → Int32} {Z : Nat → Int32} {H : Heap} {s : State} (hK : KK dC dI G s) (h : X10I dC dI G ax T Y fa N B N1 B1 N2 B2 K S M E Z H) : ∃ cellB : Cell, H[ax 0]? = some cellB ∧ cellB.vm.isStatics = false ∧ s.vm.findClass RX10 = some cellB.cls := by
  unfold X10I X10Pr at h
  obtain ⟨⟨zi0_13, q⟩, -⟩ := h
  exact va_recv (ci := 10) (q0 := 0) hK.1 (vpc q va_nilP) rfl rfl
def X11Pr (dC : Nat → ClassId) (dI : Nat → Nat → Nat) (G : Nat → ClassId) (ax : Nat → Nat) (N : Nat) (B : Nat) (T : Nat) (fa : Int32) (S : Nat) (M : Nat) (H : Heap) : Prop := ∃ (zi112_4 : Int32) (zi112_5 : Int32) (zi112_6 : Int32) (zi112_7 : Int32) (zi112_8 : Int32) (zi112_9 : Int32) (zi112_13 : Int32) (zi112_14 : Int32) (zi112_15 : Int32) (zn112_16 : Nat) (zi112_17 : Int32) (zi112_18 : Int32) (zi112_34 : Int32), (N ≤ 10) ∧ (B ≤ 6) ∧ (T ≤ 320) ∧ (S ≤ 8) ∧ (M ≤ 6) ∧ (N = 0 ∨ 0 < B) ∧ (zn112_16 ≤ 320) ∧ (va_at (dC, dI) vwCl (ax 112, .inr (11, [.ref (ax 113), .int (nI N), .int (nI B), .ref (ax 114), .int zi112_4, .int zi112_5, .int zi112_6, .int zi112_7, .int zi112_8, .int zi112_9, .ref (ax 115), .int (nI T), .int fa, .int zi112_13, .int zi112_14, .int zi112_15, .int (nI zn112_16), .int zi112_17, .int zi112_18, .ref (ax 116), .ref (ax 117), .ref (ax 118), .ref (ax 119), .ref (ax 120), .ref (ax 121), .int (nI S), .ref (ax 122), .int (nI M), .ref (ax 123), .ref (ax 124), .ref (ax 125), .ref (ax 126), .ref (ax 127), .ref (ax 128), .int zi112_34])) H)
theorem X11Pr.kept {dC : Nat → ClassId} {dI : Nat → Nat → Nat} {G : Nat → ClassId} {ax : Nat → Nat} {N : Nat} {B : Nat} {T : Nat} {fa : Int32} {S : Nat} {M : Nat} {H H1 : Heap} (hk : ∀ j : Nat, 112 ≤ j → j < 113 → ax j < H.size → H1[ax j]? = H[ax j]?) (h : X11Pr dC dI G ax N B T fa S M H) : X11Pr dC dI G ax N B T fa S M H1 := by
  unfold X11Pr at h ⊢
  obtain ⟨zi112_4, zi112_5, zi112_6, zi112_7, zi112_8, zi112_9, zi112_13, zi112_14, zi112_15, zn112_16, zi112_17, zi112_18, zi112_34, j0, j1, j2, j3, j4, j5, j6, q112⟩ := h
  exact ⟨zi112_4, zi112_5, zi112_6, zi112_7, zi112_8, zi112_9, zi112_13, zi112_14, zi112_15, zn112_16, zi112_17, zi112_18, zi112_34, j0, j1, j2, j3, j4, j5, j6, q112.kept (hk 112 (by decide) (by decide) q112.lt)⟩
def X11P0 (dC : Nat → ClassId) (dI : Nat → Nat → Nat) (G : Nat → ClassId) (ax : Nat → Nat) (H : Heap) : Prop := ∃ (zf113 : Nat → Int32), (OKS zf113) ∧ (va_at (dC, dI) vwCl (ax 113, .inl (G 0, 196, .inl zf113)) H)
theorem X11P0.kept {dC : Nat → ClassId} {dI : Nat → Nat → Nat} {G : Nat → ClassId} {ax : Nat → Nat} {H H1 : Heap} (hk : ∀ j : Nat, 113 ≤ j → j < 114 → ax j < H.size → H1[ax j]? = H[ax j]?) (h : X11P0 dC dI G ax H) : X11P0 dC dI G ax H1 := by
  unfold X11P0 at h ⊢
  obtain ⟨zf113, j0, q113⟩ := h
  exact ⟨zf113, j0, q113.kept (hk 113 (by decide) (by decide) q113.lt)⟩
def X11P3 (dC : Nat → ClassId) (dI : Nat → Nat → Nat) (G : Nat → ClassId) (ax : Nat → Nat) (H : Heap) : Prop := ∃ (zf114 : Nat → Int32), (va_at (dC, dI) vwCl (ax 114, .inl (G 0, 49, .inl zf114)) H)
theorem X11P3.kept {dC : Nat → ClassId} {dI : Nat → Nat → Nat} {G : Nat → ClassId} {ax : Nat → Nat} {H H1 : Heap} (hk : ∀ j : Nat, 114 ≤ j → j < 115 → ax j < H.size → H1[ax j]? = H[ax j]?) (h : X11P3 dC dI G ax H) : X11P3 dC dI G ax H1 := by
  unfold X11P3 at h ⊢
  obtain ⟨zf114, q114⟩ := h
  exact ⟨zf114, q114.kept (hk 114 (by decide) (by decide) q114.lt)⟩
def X11P10 (dC : Nat → ClassId) (dI : Nat → Nat → Nat) (G : Nat → ClassId) (ax : Nat → Nat) (Y : Nat → Int32) (H : Heap) : Prop := (∀ q : Nat, q < 320 → 0 ≤ (Y q).toInt) ∧ (va_at (dC, dI) vwCl (ax 115, .inl (G 0, 320, .inl Y)) H)
theorem X11P10.kept {dC : Nat → ClassId} {dI : Nat → Nat → Nat} {G : Nat → ClassId} {ax : Nat → Nat} {Y : Nat → Int32} {H H1 : Heap} (hk : ∀ j : Nat, 115 ≤ j → j < 116 → ax j < H.size → H1[ax j]? = H[ax j]?) (h : X11P10 dC dI G ax Y H) : X11P10 dC dI G ax Y H1 := by
  unfold X11P10 at h ⊢
  obtain ⟨j0, q115⟩ := h
  exact ⟨j0, q115.kept (hk 115 (by decide) (by decide) q115.lt)⟩
def X11P19 (dC : Nat → ClassId) (dI : Nat → Nat → Nat) (G : Nat → ClassId) (ax : Nat → Nat) (H : Heap) : Prop := ∃ (zf116 : Nat → Int32), (∀ q : Nat, q < 11 → zf116 q = nI (cutL.getD q 0)) ∧ (va_at (dC, dI) vwCl (ax 116, .inl (G 0, 11, .inl zf116)) H)
theorem X11P19.kept {dC : Nat → ClassId} {dI : Nat → Nat → Nat} {G : Nat → ClassId} {ax : Nat → Nat} {H H1 : Heap} (hk : ∀ j : Nat, 116 ≤ j → j < 117 → ax j < H.size → H1[ax j]? = H[ax j]?) (h : X11P19 dC dI G ax H) : X11P19 dC dI G ax H1 := by
  unfold X11P19 at h ⊢
  obtain ⟨zf116, j0, q116⟩ := h
  exact ⟨zf116, j0, q116.kept (hk 116 (by decide) (by decide) q116.lt)⟩
def X11P20 (dC : Nat → ClassId) (dI : Nat → Nat → Nat) (G : Nat → ClassId) (ax : Nat → Nat) (H : Heap) : Prop := ∃ (zf117 : Nat → Int32), (∀ q : Nat, q < 54 → zf117 q = letL.getD q 0) ∧ (va_at (dC, dI) vwCl (ax 117, .inl (G 0, 54, .inl zf117)) H)
theorem X11P20.kept {dC : Nat → ClassId} {dI : Nat → Nat → Nat} {G : Nat → ClassId} {ax : Nat → Nat} {H H1 : Heap} (hk : ∀ j : Nat, 117 ≤ j → j < 118 → ax j < H.size → H1[ax j]? = H[ax j]?) (h : X11P20 dC dI G ax H) : X11P20 dC dI G ax H1 := by
  unfold X11P20 at h ⊢
  obtain ⟨zf117, j0, q117⟩ := h
  exact ⟨zf117, j0, q117.kept (hk 117 (by decide) (by decide) q117.lt)⟩
def X11P21 (dC : Nat → ClassId) (dI : Nat → Nat → Nat) (G : Nat → ClassId) (ax : Nat → Nat) (H : Heap) : Prop := ∃ (zf118 : Nat → Int64), (va_at (dC, dI) vwCl (ax 118, .inl (G 1, 10, .inr (.inl zf118))) H)
theorem X11P21.kept {dC : Nat → ClassId} {dI : Nat → Nat → Nat} {G : Nat → ClassId} {ax : Nat → Nat} {H H1 : Heap} (hk : ∀ j : Nat, 118 ≤ j → j < 119 → ax j < H.size → H1[ax j]? = H[ax j]?) (h : X11P21 dC dI G ax H) : X11P21 dC dI G ax H1 := by
  unfold X11P21 at h ⊢
  obtain ⟨zf118, q118⟩ := h
  exact ⟨zf118, q118.kept (hk 118 (by decide) (by decide) q118.lt)⟩
def X11P22 (dC : Nat → ClassId) (dI : Nat → Nat → Nat) (G : Nat → ClassId) (ax : Nat → Nat) (H : Heap) : Prop := ∃ (zf119 : Nat → Int64), (va_at (dC, dI) vwCl (ax 119, .inl (G 1, 10, .inr (.inl zf119))) H)
theorem X11P22.kept {dC : Nat → ClassId} {dI : Nat → Nat → Nat} {G : Nat → ClassId} {ax : Nat → Nat} {H H1 : Heap} (hk : ∀ j : Nat, 119 ≤ j → j < 120 → ax j < H.size → H1[ax j]? = H[ax j]?) (h : X11P22 dC dI G ax H) : X11P22 dC dI G ax H1 := by
  unfold X11P22 at h ⊢
  obtain ⟨zf119, q119⟩ := h
  exact ⟨zf119, q119.kept (hk 119 (by decide) (by decide) q119.lt)⟩
def X11P23 (dC : Nat → ClassId) (dI : Nat → Nat → Nat) (G : Nat → ClassId) (ax : Nat → Nat) (H : Heap) : Prop := ∃ (zf120 : Nat → Int64), (va_at (dC, dI) vwCl (ax 120, .inl (G 1, 770, .inr (.inl zf120))) H)
theorem X11P23.kept {dC : Nat → ClassId} {dI : Nat → Nat → Nat} {G : Nat → ClassId} {ax : Nat → Nat} {H H1 : Heap} (hk : ∀ j : Nat, 120 ≤ j → j < 121 → ax j < H.size → H1[ax j]? = H[ax j]?) (h : X11P23 dC dI G ax H) : X11P23 dC dI G ax H1 := by
  unfold X11P23 at h ⊢
  obtain ⟨zf120, q120⟩ := h
  exact ⟨zf120, q120.kept (hk 120 (by decide) (by decide) q120.lt)⟩
def X11P24 (dC : Nat → ClassId) (dI : Nat → Nat → Nat) (G : Nat → ClassId) (ax : Nat → Nat) (H : Heap) : Prop := ∃ (zf121 : Nat → Int32), (OKL zf121) ∧ (va_at (dC, dI) vwCl (ax 121, .inl (G 0, 32, .inl zf121)) H)
theorem X11P24.kept {dC : Nat → ClassId} {dI : Nat → Nat → Nat} {G : Nat → ClassId} {ax : Nat → Nat} {H H1 : Heap} (hk : ∀ j : Nat, 121 ≤ j → j < 122 → ax j < H.size → H1[ax j]? = H[ax j]?) (h : X11P24 dC dI G ax H) : X11P24 dC dI G ax H1 := by
  unfold X11P24 at h ⊢
  obtain ⟨zf121, j0, q121⟩ := h
  exact ⟨zf121, j0, q121.kept (hk 121 (by decide) (by decide) q121.lt)⟩
def X11P26 (dC : Nat → ClassId) (dI : Nat → Nat → Nat) (G : Nat → ClassId) (ax : Nat → Nat) (H : Heap) : Prop := ∃ (zf122 : Nat → Int32), (va_at (dC, dI) vwCl (ax 122, .inl (G 0, 12, .inl zf122)) H)
theorem X11P26.kept {dC : Nat → ClassId} {dI : Nat → Nat → Nat} {G : Nat → ClassId} {ax : Nat → Nat} {H H1 : Heap} (hk : ∀ j : Nat, 122 ≤ j → j < 123 → ax j < H.size → H1[ax j]? = H[ax j]?) (h : X11P26 dC dI G ax H) : X11P26 dC dI G ax H1 := by
  unfold X11P26 at h ⊢
  obtain ⟨zf122, q122⟩ := h
  exact ⟨zf122, q122.kept (hk 122 (by decide) (by decide) q122.lt)⟩
def X11P28 (dC : Nat → ClassId) (dI : Nat → Nat → Nat) (G : Nat → ClassId) (ax : Nat → Nat) (H : Heap) : Prop := ∃ (zf123 : Nat → Int32), (va_at (dC, dI) vwCl (ax 123, .inl (G 0, 110, .inl zf123)) H)
theorem X11P28.kept {dC : Nat → ClassId} {dI : Nat → Nat → Nat} {G : Nat → ClassId} {ax : Nat → Nat} {H H1 : Heap} (hk : ∀ j : Nat, 123 ≤ j → j < 124 → ax j < H.size → H1[ax j]? = H[ax j]?) (h : X11P28 dC dI G ax H) : X11P28 dC dI G ax H1 := by
  unfold X11P28 at h ⊢
  obtain ⟨zf123, q123⟩ := h
  exact ⟨zf123, q123.kept (hk 123 (by decide) (by decide) q123.lt)⟩
def X11P29 (dC : Nat → ClassId) (dI : Nat → Nat → Nat) (G : Nat → ClassId) (ax : Nat → Nat) (H : Heap) : Prop := ∃ (zf124 : Nat → Int32), (va_at (dC, dI) vwCl (ax 124, .inl (G 0, 110, .inl zf124)) H)
theorem X11P29.kept {dC : Nat → ClassId} {dI : Nat → Nat → Nat} {G : Nat → ClassId} {ax : Nat → Nat} {H H1 : Heap} (hk : ∀ j : Nat, 124 ≤ j → j < 125 → ax j < H.size → H1[ax j]? = H[ax j]?) (h : X11P29 dC dI G ax H) : X11P29 dC dI G ax H1 := by
  unfold X11P29 at h ⊢
  obtain ⟨zf124, q124⟩ := h
  exact ⟨zf124, q124.kept (hk 124 (by decide) (by decide) q124.lt)⟩
def X11P30 (dC : Nat → ClassId) (dI : Nat → Nat → Nat) (G : Nat → ClassId) (ax : Nat → Nat) (K : Nat → Int32) (H : Heap) : Prop := (va_at (dC, dI) vwCl (ax 125, .inl (G 2, 2, .inl K)) H)
theorem X11P30.kept {dC : Nat → ClassId} {dI : Nat → Nat → Nat} {G : Nat → ClassId} {ax : Nat → Nat} {K : Nat → Int32} {H H1 : Heap} (hk : ∀ j : Nat, 125 ≤ j → j < 126 → ax j < H.size → H1[ax j]? = H[ax j]?) (h : X11P30 dC dI G ax K H) : X11P30 dC dI G ax K H1 := by
  unfold X11P30 at h ⊢
  have q125 := h
  exact q125.kept (hk 125 (by decide) (by decide) q125.lt)
def X11P31 (dC : Nat → ClassId) (dI : Nat → Nat → Nat) (G : Nat → ClassId) (ax : Nat → Nat) (E : Nat → Int32) (H : Heap) : Prop := (∀ q : Nat, q < 4 → E q = -1 ∨ (0 ≤ (E q).toInt ∧ (E q).toInt ≤ 2)) ∧ (va_at (dC, dI) vwCl (ax 126, .inl (G 0, 4, .inl (lmap E))) H)
theorem X11P31.kept {dC : Nat → ClassId} {dI : Nat → Nat → Nat} {G : Nat → ClassId} {ax : Nat → Nat} {E : Nat → Int32} {H H1 : Heap} (hk : ∀ j : Nat, 126 ≤ j → j < 127 → ax j < H.size → H1[ax j]? = H[ax j]?) (h : X11P31 dC dI G ax E H) : X11P31 dC dI G ax E H1 := by
  unfold X11P31 at h ⊢
  obtain ⟨j0, q126⟩ := h
  exact ⟨j0, q126.kept (hk 126 (by decide) (by decide) q126.lt)⟩
def X11P32 (dC : Nat → ClassId) (dI : Nat → Nat → Nat) (G : Nat → ClassId) (ax : Nat → Nat) (Z : Nat → Int32) (H : Heap) : Prop := (∀ q : Nat, q < 4 → 0 ≤ (Z q).toInt ∧ (Z q).toInt ≤ 40) ∧ (va_at (dC, dI) vwCl (ax 127, .inl (G 0, 4, .inl Z)) H)
theorem X11P32.kept {dC : Nat → ClassId} {dI : Nat → Nat → Nat} {G : Nat → ClassId} {ax : Nat → Nat} {Z : Nat → Int32} {H H1 : Heap} (hk : ∀ j : Nat, 127 ≤ j → j < 128 → ax j < H.size → H1[ax j]? = H[ax j]?) (h : X11P32 dC dI G ax Z H) : X11P32 dC dI G ax Z H1 := by
  unfold X11P32 at h ⊢
  obtain ⟨j0, q127⟩ := h
  exact ⟨j0, q127.kept (hk 127 (by decide) (by decide) q127.lt)⟩
def X11P33 (dC : Nat → ClassId) (dI : Nat → Nat → Nat) (G : Nat → ClassId) (ax : Nat → Nat) (H : Heap) : Prop := ∃ (zf128 : Nat → Int32), (va_at (dC, dI) vwCl (ax 128, .inl (G 0, 160, .inl zf128)) H)
theorem X11P33.kept {dC : Nat → ClassId} {dI : Nat → Nat → Nat} {G : Nat → ClassId} {ax : Nat → Nat} {H H1 : Heap} (hk : ∀ j : Nat, 128 ≤ j → j < 129 → ax j < H.size → H1[ax j]? = H[ax j]?) (h : X11P33 dC dI G ax H) : X11P33 dC dI G ax H1 := by
  unfold X11P33 at h ⊢
  obtain ⟨zf128, q128⟩ := h
  exact ⟨zf128, q128.kept (hk 128 (by decide) (by decide) q128.lt)⟩
def X11I (dC : Nat → ClassId) (dI : Nat → Nat → Nat) (G : Nat → ClassId) (ax : Nat → Nat) (T : Nat) (Y : Nat → Int32) (fa : Int32) (N : Nat) (B : Nat) (N1 : Nat) (B1 : Nat) (N2 : Nat) (B2 : Nat) (K : Nat → Int32) (S : Nat) (M : Nat) (E : Nat → Int32) (Z : Nat → Int32) (H : Heap) : Prop := X11Pr dC dI G ax N B T fa S M H ∧ X11P0 dC dI G ax H ∧ X11P3 dC dI G ax H ∧ X11P10 dC dI G ax Y H ∧ X11P19 dC dI G ax H ∧ X11P20 dC dI G ax H ∧ X11P21 dC dI G ax H ∧ X11P22 dC dI G ax H ∧ X11P23 dC dI G ax H ∧ X11P24 dC dI G ax H ∧ X11P26 dC dI G ax H ∧ X11P28 dC dI G ax H ∧ X11P29 dC dI G ax H ∧ X11P30 dC dI G ax K H ∧ X11P31 dC dI G ax E H ∧ X11P32 dC dI G ax Z H ∧ X11P33 dC dI G ax H
theorem X11I.kept {dC : Nat → ClassId} {dI : Nat → Nat → Nat} {G : Nat → ClassId} {ax : Nat → Nat} {T : Nat} {Y : Nat → Int32} {fa : Int32} {N : Nat} {B : Nat} {N1 : Nat} {B1 : Nat} {N2 : Nat} {B2 : Nat} {K : Nat → Int32} {S : Nat} {M : Nat} {E : Nat → Int32} {Z : Nat → Int32} {H H1 : Heap} (hk : ∀ j : Nat, 112 ≤ j → j < 129 → ax j < H.size → H1[ax j]? = H[ax j]?) (h : X11I dC dI G ax T Y fa N B N1 B1 N2 B2 K S M E Z H) : X11I dC dI G ax T Y fa N B N1 B1 N2 B2 K S M E Z H1 := by
  unfold X11I at h ⊢
  obtain ⟨p0, p1, p2, p3, p4, p5, p6, p7, p8, p9, p10, p11, p12, p13, p14, p15, p16⟩ := h
  exact ⟨p0.kept (fun j h1 h2 => hk j (by omega) (by omega)), p1.kept (fun j h1 h2 => hk j (by omega) (by omega)), p2.kept (fun j h1 h2 => hk j (by omega) (by omega)), p3.kept (fun j h1 h2 => hk j (by omega) (by omega)), p4.kept (fun j h1 h2 => hk j (by omega) (by omega)), p5.kept (fun j h1 h2 => hk j (by omega) (by omega)), p6.kept (fun j h1 h2 => hk j (by omega) (by omega)), p7.kept (fun j h1 h2 => hk j (by omega) (by omega)), p8.kept (fun j h1 h2 => hk j (by omega) (by omega)), p9.kept (fun j h1 h2 => hk j (by omega) (by omega)), p10.kept (fun j h1 h2 => hk j (by omega) (by omega)), p11.kept (fun j h1 h2 => hk j (by omega) (by omega)), p12.kept (fun j h1 h2 => hk j (by omega) (by omega)), p13.kept (fun j h1 h2 => hk j (by omega) (by omega)), p14.kept (fun j h1 h2 => hk j (by omega) (by omega)), p15.kept (fun j h1 h2 => hk j (by omega) (by omega)), p16.kept (fun j h1 h2 => hk j (by omega) (by omega))⟩
theorem X11I.recv {dC : Nat → ClassId} {dI : Nat → Nat → Nat} {G : Nat → ClassId} {ax : Nat → Nat} {T : Nat} {Y : Nat → Int32} {fa : Int32} {N : Nat} {B : Nat} {N1 : Nat} {B1 : Nat} {N2 : Nat} {B2 : Nat} {K : Nat → Int32} {S : Nat} {M : Nat} {E : Nat → Int32} {Z : Nat → Int32} {H : Heap} {s : State} (hK : KK dC dI G s) (h : X11I dC dI G ax T Y fa N B N1 B1 N2 B2 K S M E Z H) : ∃ cellB : Cell, H[ax 112]? = some cellB ∧ cellB.vm.isStatics = false ∧ s.vm.findClass RX11 = some cellB.cls := by
  unfold X11I X11Pr at h
  obtain ⟨⟨zi112_4, zi112_5, zi112_6, zi112_7, zi112_8, zi112_9, zi112_13, zi112_14, zi112_15, zn112_16, zi112_17, zi112_18, zi112_34, j0, j1, j2, j3, j4, j5, j6, q⟩, -⟩ := h
  exact va_recv (ci := 11) (q0 := 0) hK.1 (vpc q va_nilP) rfl rfl
