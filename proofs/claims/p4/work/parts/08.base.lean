/-! the base: one list of good words for all contracts, the nest words, the tables' facts in one K, calls by these -/
def isNest : Cond → Bool
  | .methodLinkNest _ _ _ _ => true
  | .fieldLinkNest _ _ _ _ _ _ => true
  | _ => false
def GT : List Cond := lw_tbl.filter goodWord
def NT : List Cond := lw_tbl.filter isNest
theorem GT_in : GoodIn GT GT := fun _ h => ⟨h, good_of_word (List.mem_filter.mp h).2⟩
theorem GT_cons {w : Cond} (hw : w ∈ GT) : GoodIn GT (w :: GT) := fun v h => by
  rcases List.mem_cons.mp h with rfl | h
  · exact GT_in _ hw
  · exact GT_in _ h
theorem mT {w : Cond} (i : Nat) (h : tables_1[i]? = some w) (hg : goodWord w = true) : w ∈ GT := List.mem_filter.mpr ⟨List.mem_append_right _ (List.mem_of_getElem? h), hg⟩
theorem mN {w : Cond} (i : Nat) (h : tables_1[i]? = some w) (hg : isNest w = true) : w ∈ NT := List.mem_filter.mpr ⟨List.mem_append_right _ (List.mem_of_getElem? h), hg⟩
theorem mS {q : MethodName × Nat} (i : Nat) (h : lw_privs[i]? = some q) : Cond.selects q.1.cls q.1 q.1 ∈ GT := List.mem_filter.mpr ⟨List.mem_append_left _ (List.mem_map.mpr ⟨q, List.mem_of_getElem? h, rfl⟩), rfl⟩
theorem arrayOver_specB {args : Array Value} {first s : State} {o : Option Outcome} {idx : List Nat} {t : FieldType} (h : (Cond.arrayOver (.array t)).holds args first o s idx = true) :
    ∃ comp c k, s.vm.findClass (FieldType.array t).toString = some comp ∧ (s.vm.classes.findIdx? fun (x : Class) => match x.kind with | .array component _ => component == comp | _ => false) = some c ∧ s.vm.classes[c]? = some k ∧ k.kind = .array comp (.array t) ∧ s.vm.findClass ("[" ++ (FieldType.array t).toString) = some c := by
  simp only [Cond.holds, Cond.value, beq_iff_eq] at h
  cases hc : s.vm.findClass (FieldType.array t).toString with
  | none => simp [hc] at h
  | some comp =>
    simp only [hc, Option.bind_some, Option.bind_eq_some_iff, Option.map_eq_some_iff] at h
    obtain ⟨c, hi, k, hk, hb⟩ := h
    obtain ⟨hlt, hp, -⟩ := Array.findIdx?_eq_some_iff_getElem.mp hi
    have hkk : s.vm.classes[c] = k := (Array.getElem?_eq_some_iff.mp hk).2
    rw [hkk] at hp
    cases hkind : k.kind with
    | array component ty =>
      rw [hkind] at hb hp
      simp at hb hp
      exact ⟨comp, c, k, rfl, hi, hk, by rw [hkind, hp, hb.1], hb.2⟩
    | _ => rw [hkind] at hb; simp at hb
theorem va_AOA.moved {t : FieldType} {u U : State} (hvm : u.vm.Alike U.vm) (h : va_AOA t u) : va_AOA t U := by
  obtain ⟨comp, c, k, h1, h2, h3, h4, h5⟩ := arrayOver_specB h
  obtain ⟨k', hk', he⟩ := hvm.2.2 _ _ h3
  have hi : (U.vm.classes.findIdx? fun (x : Class) => match x.kind with | .array component _ => component == comp | _ => false) = some c := by
    have e1 := va_idx_bare U.vm comp
    have e2 := va_idx_bare u.vm comp
    have eb : U.vm.bare = u.vm.bare := by first | exact hvm.bare_eq | exact hvm.bare_eq.symm
    rw [eb] at e1
    exact (e1.symm.trans e2).trans h2
  have hkind : k'.kind = .array comp (.array t) := by rw [he]; exact h4
  have f1 : U.vm.findClass (FieldType.array t).toString = some comp := by rw [hvm.findClass]; exact h1
  have f2 : U.vm.findClass ("[" ++ (FieldType.array t).toString) = some c := by rw [hvm.findClass]; exact h5
  unfold va_AOA Cond.before Cond.holds
  simp only [Cond.value]
  rw [f1, Option.bind_some]
  refine (congrArg (fun o : Option Nat => (o.bind (fun c => (U.vm.classes[c]?).map fun (k : Class) => match k.kind with | .array _ ty => decide (ty = FieldType.array t) && decide (U.vm.findClass ("[" ++ (FieldType.array t).toString) = some c) | _ => false) == some true)) hi).trans ?_
  simp [hk', hkind, f2]
abbrev tyl (G : Nat → ClassId) : List (ClassId × FieldType) := [(G 0, .int), (G 1, .long), (G 2, .boolean), (G 3, .object "AsleepPass$Way"), (G 4, .array .int), (G 5, .array .long)]
/-- what every method takes of the tables: the classes' layouts, the array classes, the nest words -/
def KK (dC : Nat → ClassId) (dI : Nat → Nat → Nat) (G : Nat → ClassId) (U : State) : Prop := va_K (dC, dI) vwCl (tyl G) U ∧ (∀ w ∈ NT, va_Nw w U) ∧ va_AO "AsleepPass$Way" U ∧ va_AOA .int U ∧ va_AOA .long U
theorem nest_warm {w : Cond} (h : isNest w = true) {s U : State} (hW : s.WarmedH U.vm) (hZ : va_Nw w s) : va_Nw w U := by
  cases w <;> first | exact va_Nw.warmF hW hZ | exact va_Nw.warmM hW hZ | (cases h)
theorem KK.warm {dC : Nat → ClassId} {dI : Nat → Nat → Nat} {G : Nat → ClassId} {s U : State} (hW : s.WarmedH U.vm) (h : KK dC dI G s) : KK dC dI G U :=
  ⟨va_K.moved hW.alike h.1, fun w hw => nest_warm (List.mem_filter.mp hw).2 hW (h.2.1 w hw), va_AO.moved hW.alike h.2.2.1, va_AOA.moved hW.alike h.2.2.2.1, va_AOA.moved hW.alike h.2.2.2.2⟩
theorem nest_on {w : Cond} (h : isNest w = true) : w.onTables = true := by cases w <;> first | rfl | (cases h)
theorem KK.nest {dC : Nat → ClassId} {dI : Nat → Nat → Nat} {G : Nat → ClassId} {s : State} (h : KK dC dI G s) {A : Array Value} {w : Cond} (hw : w ∈ NT) : w.before A s = true := va_Nw.use (nest_on (List.mem_filter.mp hw).2) (h.2.1 w hw)
theorem KK.calling {dC : Nat → ClassId} {dI : Nat → Nat → Nat} {G : Nat → ClassId} {U V : State} (hv : U.vm = V.vm) (h : KK dC dI G U) : KK dC dI G V := by
  have ha : U.vm.Alike V.vm := hv ▸ Vm.Alike.refl U.vm
  exact ⟨va_K.moved ha h.1, fun w hw => va_Nw.same (nest_on (List.mem_filter.mp hw).2) hv (h.2.1 w hw), va_AO.moved ha h.2.2.1, va_AOA.moved ha h.2.2.2.1, va_AOA.moved ha h.2.2.2.2⟩
/-- a method that only reads: its start -/
def PcR (av : List Value) (dC : Nat → ClassId) (dI : Nat → Nat → Nat) (G : Nat → ClassId) (ws : va_W) (sz : Nat) : Array Value → State → Prop := va_Pc av (fun U => U.heap.size = sz ∧ va_P (dC, dI) vwCl ws U.heap ∧ KK dC dI G U)
/-- a method that writes: its start -/
def PcW (av : List Value) (dC : Nat → ClassId) (dI : Nat → Nat → Nat) (G : Nat → ClassId) (ws : va_W) (sz : Nat) : Array Value → State → Prop := va_Pc av (fun U => U.heap.size = sz ∧ va_P (dC, dI) vwCl ws U.heap ∧ KK dC dI G U ∧ va_D (fun _ => True) ws)
theorem PcR.blind {av : List Value} {dC : Nat → ClassId} {dI : Nat → Nat → Nat} {G : Nat → ClassId} {ws : va_W} {sz : Nat} : FrameBlind (PcR av dC dI G ws sz) := fun a U g mk q => by
  obtain ⟨q0, q1, q2, q3⟩ := q
  exact ⟨q0, q1, q2, KK.calling (U := U) (V := U.calling g mk a) rfl q3⟩
theorem PcW.blind {av : List Value} {dC : Nat → ClassId} {dI : Nat → Nat → Nat} {G : Nat → ClassId} {ws : va_W} {sz : Nat} : FrameBlind (PcW av dC dI G ws sz) := fun a U g mk q => by
  obtain ⟨q0, q1, q2, q3, q4⟩ := q
  exact ⟨q0, q1, q2, KK.calling (U := U) (V := U.calling g mk a) rfl q3, q4⟩
theorem preSR {s : State} {H : Heap} {As : List Value} {dC : Nat → ClassId} {dI : Nat → Nat → Nat} {G : Nat → ClassId} {ws : va_W} (hK : KK dC dI G s) (hP : va_P (dC, dI) vwCl ws H) : PreS s H (PcR As dC dI G ws H.size) As :=
  ⟨PcR.blind, fun U hU hW => ⟨rfl, by rw [hU], by rw [hU]; exact hP, hK.warm hW⟩⟩
theorem preSW {s : State} {H : Heap} {As : List Value} {dC : Nat → ClassId} {dI : Nat → Nat → Nat} {G : Nat → ClassId} {A : Nat → Prop} {ws : va_W} (hK : KK dC dI G s) (hP : va_P (dC, dI) vwCl ws H) (hD : va_D A ws) : PreS s H (PcW As dC dI G ws H.size) As :=
  ⟨PcW.blind, fun U hU hW => ⟨rfl, by rw [hU], by rw [hU]; exact hP, hK.warm hW, hD.weaken (fun _ _ _ _ => trivial)⟩⟩
theorem preVR {s : State} {H : Heap} {As : List Value} {b : Nat} {dC : Nat → ClassId} {dI : Nat → Nat → Nat} {G : Nat → ClassId} {ws : va_W} {ci : Nat} {r : vw_C} {fs : List Value} (hK : KK dC dI G s) (hP : va_P (dC, dI) vwCl ws H) (hc : vwCl[ci]? = some r) (he : ws[0]? = some (b, .inr (ci, fs))) : PreV s H r.1 b (PcR (.ref b :: As) dC dI G ws H.size) As :=
  ⟨PcR.blind, va_recv hK.1 hP hc he, fun U hU hW => ⟨rfl, by rw [hU], by rw [hU]; exact hP, hK.warm hW⟩⟩
theorem preVW {s : State} {H : Heap} {As : List Value} {b : Nat} {dC : Nat → ClassId} {dI : Nat → Nat → Nat} {G : Nat → ClassId} {A : Nat → Prop} {ws : va_W} {ci : Nat} {r : vw_C} {fs : List Value} (hK : KK dC dI G s) (hP : va_P (dC, dI) vwCl ws H) (hD : va_D A ws) (hc : vwCl[ci]? = some r) (he : ws[0]? = some (b, .inr (ci, fs))) : PreV s H r.1 b (PcW (.ref b :: As) dC dI G ws H.size) As :=
  ⟨PcW.blind, va_recv hK.1 hP hc he, fun U hU hW => ⟨rfl, by rw [hU], by rw [hU]; exact hP, hK.warm hW, hD.weaken (fun _ _ _ _ => trivial)⟩⟩
/-- behind a call that only read -/
theorem keepR {D : va_G} {cl : List vw_C} {ws : va_W} {H H1 : Heap} (hP : va_P D cl ws H) (hk : ∀ q : Nat, q < H.size → ¬ H.size ≤ q → H1[q]? = H[q]?) : va_P D cl ws H1 :=
  hP.kept (fun k q hq => hk q.1 (hP k q hq).lt (Nat.not_le.mpr (hP k q hq).lt))
/-- what the words say of a method: instance, static, constructor -/
def MF (y : MethodName) (bytes : ByteArray) (maxL : Nat) (ret : Option FieldType) (n : Nat) : Prop := Cond.code y bytes maxL ret ∈ GT ∧ Cond.instanceMethod y ∈ GT ∧ Cond.selects y.cls y y ∈ GT ∧ Cond.initialized y.cls ∈ GT ∧ (y.cls ≠ "java/lang/invoke/MethodHandle" ∧ y.cls ≠ "java/lang/invoke/VarHandle" ∧ (parseMethodDescriptor y.desc).map (fun d => d.parameters.length) = some n)
def MFS (y : MethodName) (bytes : ByteArray) (maxL : Nat) (ret : Option FieldType) (n : Nat) : Prop := Cond.code y bytes maxL ret ∈ GT ∧ Cond.static y ∈ GT ∧ Cond.initialized y.cls ∈ GT ∧ (y.cls ≠ "java/lang/invoke/MethodHandle" ∧ y.cls ≠ "java/lang/invoke/VarHandle" ∧ (parseMethodDescriptor y.desc).map (fun d => d.parameters.length) = some n)
def MFI (y : MethodName) (bytes : ByteArray) (maxL : Nat) (n : Nat) : Prop := Cond.code y bytes maxL none ∈ GT ∧ Cond.instanceMethod y ∈ GT ∧ Cond.initialized y.cls ∈ GT ∧ y.name = "<init>" ∧ (y.cls ≠ "java/lang/invoke/MethodHandle" ∧ y.cls ≠ "java/lang/invoke/VarHandle" ∧ (parseMethodDescriptor y.desc).map (fun d => d.parameters.length) = some n)
section KW
variable {R : Room} {s : State} {args : Array Value} {own host : String} {idx maxL n : Nat} {y : MethodName} {bytes : ByteArray} {ret : Option FieldType} {rm : Room}
theorem kwV (hg : ∀ w ∈ GT, w.before args s = true) (h : MF y bytes maxL ret n) (hl : Cond.methodLink own idx y ∈ GT) (hR : rm.frames + 1 ≤ R.frames ∧ 8 + (maxL + 11) + rm.locals ≤ R.locals) : CallW R s args own y.cls idx y bytes maxL ret (Cond.code y bytes maxL ret :: GT) rm rm.cells rm.slots n :=
  ⟨callB_of n hg (GT_cons h.1) rfl rfl rfl (hg _ h.2.2.2.1) (hg _ hl) h.2.2.2.2 hR, hg _ h.2.1, hg _ h.2.2.1⟩
theorem kwVN {dC : Nat → ClassId} {dI : Nat → Nat → Nat} {G : Nat → ClassId} (hg : ∀ w ∈ GT, w.before args s = true) (hK : KK dC dI G s) (h : MF y bytes maxL ret n) (hl : Cond.methodLinkNest own idx y host ∈ NT) (hR : rm.frames + 1 ≤ R.frames ∧ 8 + (maxL + 11) + rm.locals ≤ R.locals) : va_CN R s args own idx y host bytes maxL ret (Cond.code y bytes maxL ret :: GT) rm rm.cells rm.slots n ∧ (Cond.instanceMethod y).before args s = true ∧ (Cond.selects y.cls y y).before args s = true :=
  ⟨va_cnB n hg (GT_cons h.1) rfl rfl rfl (hK.2.1 _ hl) (hg _ h.2.2.2.1) h.2.2.2.2 hR, hg _ h.2.1, hg _ h.2.2.1⟩
theorem kwS (hg : ∀ w ∈ GT, w.before args s = true) (h : MFS y bytes maxL ret n) (hl : Cond.methodLink own idx y ∈ GT) (hR : rm.frames + 1 ≤ R.frames ∧ 8 + (maxL + 11) + rm.locals ≤ R.locals) : CallB R s args own idx y bytes maxL ret (Cond.code y bytes maxL ret :: GT) rm rm.cells rm.slots n ∧ (Cond.static y).before args s = true :=
  ⟨callB_of n hg (GT_cons h.1) rfl rfl rfl (hg _ h.2.2.1) (hg _ hl) h.2.2.2 hR, hg _ h.2.1⟩
theorem kwSN {dC : Nat → ClassId} {dI : Nat → Nat → Nat} {G : Nat → ClassId} (hg : ∀ w ∈ GT, w.before args s = true) (hK : KK dC dI G s) (h : MFS y bytes maxL ret n) (hl : Cond.methodLinkNest own idx y host ∈ NT) (hR : rm.frames + 1 ≤ R.frames ∧ 8 + (maxL + 11) + rm.locals ≤ R.locals) : va_CN R s args own idx y host bytes maxL ret (Cond.code y bytes maxL ret :: GT) rm rm.cells rm.slots n ∧ (Cond.static y).before args s = true ∧ True :=
  ⟨va_cnB n hg (GT_cons h.1) rfl rfl rfl (hK.2.1 _ hl) (hg _ h.2.2.1) h.2.2.2 hR, hg _ h.2.1, trivial⟩
theorem kwI (hg : ∀ w ∈ GT, w.before args s = true) (h : MFI y bytes maxL n) (hl : Cond.methodLink own idx y ∈ GT) (hR : rm.frames + 1 ≤ R.frames ∧ 8 + (maxL + 11) + rm.locals ≤ R.locals) : CallB R s args own idx y bytes maxL none (Cond.code y bytes maxL none :: GT) rm rm.cells rm.slots n ∧ y.name = "<init>" ∧ (Cond.instanceMethod y).before args s = true :=
  ⟨callB_of n hg (GT_cons h.1) rfl rfl rfl (hg _ h.2.2.1) (hg _ hl) h.2.2.2.2 hR, h.2.2.2.1, hg _ h.2.1⟩
theorem kwIN {dC : Nat → ClassId} {dI : Nat → Nat → Nat} {G : Nat → ClassId} (hg : ∀ w ∈ GT, w.before args s = true) (hK : KK dC dI G s) (h : MFI y bytes maxL n) (hl : Cond.methodLinkNest own idx y host ∈ NT) (hR : rm.frames + 1 ≤ R.frames ∧ 8 + (maxL + 11) + rm.locals ≤ R.locals) : va_CN R s args own idx y host bytes maxL none (Cond.code y bytes maxL none :: GT) rm rm.cells rm.slots n ∧ y.name = "<init>" ∧ (Cond.instanceMethod y).before args s = true :=
  ⟨va_cnB n hg (GT_cons h.1) rfl rfl rfl (hK.2.1 _ hl) (hg _ h.2.2.1) h.2.2.2.2 hR, h.2.2.2.1, hg _ h.2.1⟩
end KW
section LVX
variable {p : Program} {l : Launch} {e : Env} {R : Room} {s : State} {m : MethodId} {args : Array Value} {below : List Frame} {meth : Method} {c : Code} {H : Heap} {locs : List Loc} {cells slots : Nat} {Q : State → Prop} {pc : Nat} {ls : Array Slot} {rest : List Value}
/-- the top of the stack by another name -/
theorem lv_cg {x y : Int32} (h : x = y) (k : W p l e R s m args below meth c H locs cells slots Q (F0 m pc ls (.int y :: rest))) : W p l e R s m args below meth c H locs cells slots Q (F0 m pc ls (.int x :: rest)) := h ▸ k
theorem lv_cgl {x y : Int64} (h : x = y) (k : W p l e R s m args below meth c H locs cells slots Q (F0 m pc ls (.long y :: rest))) : W p l e R s m args below meth c H locs cells slots Q (F0 m pc ls (.long x :: rest)) := h ▸ k
theorem lv_cgv {x y : Value} (h : x = y) (k : W p l e R s m args below meth c H locs cells slots Q (F0 m pc ls (y :: rest))) : W p l e R s m args below meth c H locs cells slots Q (F0 m pc ls (x :: rest)) := h ▸ k
end LVX
/-- the new array's class is the one that is known -/
theorem uniA {D : va_G} {cl : List vw_C} {tys : List (ClassId × FieldType)} {s : State} {cA cB : ClassId} {ty : FieldType} (h : va_K D cl (tys ++ [(cA, ty)]) s) (i : Nat) (hi : tys[i]? = some (cB, ty)) : cA = cB := by
  have h1 := (h.2 tys.length (cA, ty) (by simp)).2
  have hl := (List.getElem?_eq_some_iff.mp hi).1
  have h2 := (h.2 i (cB, ty) (by rw [List.getElem?_append_left hl]; exact hi)).2
  cases ty with
  | object C =>
    obtain ⟨-, -, -, -, -, e1⟩ := h1
    obtain ⟨-, -, -, -, -, e2⟩ := h2
    exact Option.some.inj (e1.symm.trans e2)
  | _ => exact Option.some.inj (h1.symm.trans h2)
theorem ltI {x y : Int32} (h : x < y) : x.toInt < y.toInt := Int32.lt_iff_toInt_lt.mp h
theorem nltI {x y : Int32} (h : ¬ x < y) : ¬ x.toInt < y.toInt := fun q => h (Int32.lt_iff_toInt_lt.mpr q)
theorem leI {x y : Int32} (h : x ≤ y) : x.toInt ≤ y.toInt := Int32.le_iff_toInt_le.mp h
theorem nleI {x y : Int32} (h : ¬ x ≤ y) : ¬ x.toInt ≤ y.toInt := fun q => h (Int32.le_iff_toInt_le.mpr q)
theorem eqI {x y : Int32} (h : x = y) : x.toInt = y.toInt := congrArg Int32.toInt h
theorem neI {x y : Int32} (h : ¬ x = y) : ¬ x.toInt = y.toInt := fun q => h (Int32.toInt_inj.mp q)
theorem ltL {x y : Int64} (h : x < y) : x.toInt < y.toInt := Int64.lt_iff_toInt_lt.mp h
theorem nltL {x y : Int64} (h : ¬ x < y) : ¬ x.toInt < y.toInt := fun q => h (Int64.lt_iff_toInt_lt.mpr q)
theorem leL {x y : Int64} (h : x ≤ y) : x.toInt ≤ y.toInt := Int64.le_iff_toInt_le.mp h
theorem nleL {x y : Int64} (h : ¬ x ≤ y) : ¬ x.toInt ≤ y.toInt := fun q => h (Int64.le_iff_toInt_le.mpr q)
