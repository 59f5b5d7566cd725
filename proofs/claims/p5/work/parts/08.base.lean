/-! the base: one list of good words for all contracts, the nest words, the tables' facts in one K, calls by these -/
def isNest : Cond → Bool
  | .methodLinkNest _ _ _ _ => true
  | .fieldLinkNest _ _ _ _ _ _ => true
  | _ => false
def GT : List Cond := lw_tbl.filter goodWord
def NT : List Cond := lw_tbl.filter isNest
theorem GT_in : GoodIn GT GT := fun _ h => ⟨h, good_of_word (List.mem_filter.mp h).2⟩
theorem GT_cons {w : Cond} (hw : w ∈ GT) : GoodIn GT (w :: GT) := fun v h => by
  rcases List.mem_cons.mp h with rfl | h
  · exact GT_in _ hw
  · exact GT_in _ h
theorem mT {w : Cond} (i : Nat) (h : tables_1[i]? = some w) (hg : goodWord w = true) : w ∈ GT := List.mem_filter.mpr ⟨List.mem_append_right _ (List.mem_of_getElem? h), hg⟩
theorem mN {w : Cond} (i : Nat) (h : tables_1[i]? = some w) (hg : isNest w = true) : w ∈ NT := List.mem_filter.mpr ⟨List.mem_append_right _ (List.mem_of_getElem? h), hg⟩
theorem mS {q : MethodName × Nat} (i : Nat) (h : lw_privs[i]? = some q) : Cond.selects q.1.cls q.1 q.1 ∈ GT := List.mem_filter.mpr ⟨List.mem_append_left _ (List.mem_map.mpr ⟨q, List.mem_of_getElem? h, rfl⟩), rfl⟩
theorem arrayOver_specB {args : Array Value} {first s : State} {o : Option Outcome} {idx : List Nat} {t : FieldType} (h : (Cond.arrayOver (.array t)).holds args first o s idx = true) :
    ∃ comp c k, s.vm.findClass (FieldType.array t).toString = some comp ∧ (s.vm.classes.findIdx? fun (x : Class) => match x.kind with | .array component _ => component == comp | _ => false) = some c ∧ s.vm.classes[c]? = some k ∧ k.kind = .array comp (.array t) ∧ s.vm.findClass ("[" ++ (FieldType.array t).toString) = some c := by
  simp only [Cond.holds, Cond.value, beq_iff_eq] at h
  cases hc : s.vm.findClass (FieldType.array t).toString with
  | none => simp [hc] at h
  | some comp =>
    simp only [hc, Option.bind_some, Option.bind_eq_some_iff, Option.map_eq_some_iff] at h
    obtain ⟨c, hi, k, hk, hb⟩ := h
    obtain ⟨hlt, hp, -⟩ := Array.findIdx?_eq_some_iff_getElem.mp hi
    have hkk : s.vm.classes[c] = k := (Array.getElem?_eq_some_iff.mp hk).2
    rw [hkk] at hp
    cases hkind : k.kind with
    | array component ty =>
      rw [hkind] at hb hp
      simp at hb hp
      exact ⟨comp, c, k, rfl, hi, hk, by rw [hkind, hp, hb.1], hb.2⟩
    | _ => rw [hkind] at hb; simp at hb
theorem va_AOA.moved {t : FieldType} {u U : State} (hvm : u.vm.Alike U.vm) (h : va_AOA t u) : va_AOA t U := by
  obtain ⟨comp, c, k, h1, h2, h3, h4, h5⟩ := arrayOver_specB h
  obtain ⟨k', hk', he⟩ := hvm.2.2 _ _ h3
  have hi : (U.vm.classes.findIdx? fun (x : Class) => match x.kind with | .array component _ => component == comp | _ => false) = some c := by
    have e1 := va_idx_bare U.vm comp
    have e2 := va_idx_bare u.vm comp
    have eb : U.vm.bare = u.vm.bare := by first | exact hvm.bare_eq | exact hvm.bare_eq.symm
    rw [eb] at e1
    exact (e1.symm.trans e2).trans h2
  have hkind : k'.kind = .array comp (.array t) := by rw [he]; exact h4
  have f1 : U.vm.findClass (FieldType.array t).toString = some comp := by rw [hvm.findClass]; exact h1
  have f2 : U.vm.findClass ("[" ++ (FieldType.array t).toString) = some c := by rw [hvm.findClass]; exact h5
  unfold va_AOA Cond.before Cond.holds
  simp only [Cond.value]
  rw [f1, Option.bind_some]
  refine (congrArg (fun o : Option Nat => (o.bind (fun c => (U.vm.classes[c]?).map fun (k : Class) => match k.kind with | .array _ ty => decide (ty = FieldType.array t) && decide (U.vm.findClass ("[" ++ (FieldType.array t).toString) = some c) | _ => false) == some true)) hi).trans ?_
  simp [hk', hkind, f2]
abbrev tyl (G : Nat → ClassId) : List (ClassId × FieldType) := [(G 0, .int), (G 1, .long), (G 2, .boolean), (G 3, .object "AsleepPass$Way"), (G 4, .array .int), (G 5, .array .long)]
/-- what every method takes of the tables: the classes' layouts, the array classes, the nest words -/
def KK (dC : Nat → ClassId) (dI : Nat → Nat → Nat) (G : Nat → ClassId) (U : State) : Prop := va_K (dC, dI) vwCl (tyl G) U ∧ (∀ w ∈ NT, va_Nw w U) ∧ va_AO "AsleepPass$Way" U ∧ va_AOA .int U ∧ va_AOA .long U
theorem nest_warm {w : Cond} (h : isNest w = true) {s U : State} (hW : s.WarmedH U.vm) (hZ : va_Nw w s) : va_Nw w U := by
  cases w <;> first | exact va_Nw.warmF hW hZ | exact va_Nw.warmM hW hZ | (cases h)
theorem KK.warm {dC : Nat → ClassId} {dI : Nat → Nat → Nat} {G : Nat → ClassId} {s U : State} (hW : s.WarmedH U.vm) (h : KK dC dI G s) : KK dC dI G U :=
  ⟨va_K.moved hW.alike h.1, fun w hw => nest_warm (List.mem_filter.mp hw).2 hW (h.2.1 w hw), va_AO.moved hW.alike h.2.2.1, va_AOA.moved hW.alike h.2.2.2.1, va_AOA.moved hW.alike h.2.2.2.2⟩
theorem nest_on {w : Cond} (h : isNest w = true) : w.onTables = true := by cases w <;> first | rfl | (cases h)
theorem KK.nest {dC : Nat → ClassId} {dI : Nat → Nat → Nat} {G : Nat → ClassId} {s : State} (h : KK dC dI G s) {A : Array Value} {w : Cond} (hw : w ∈ NT) : w.before A s = true := va_Nw.use (nest_on (List.mem_filter.mp hw).2) (h.2.1 w hw)
theorem KK.calling {dC : Nat → ClassId} {dI : Nat → Nat → Nat} {G : Nat → ClassId} {U V : State} (hv : U.vm = V.vm) (h : KK dC dI G U) : KK dC dI G V := by
  have ha : U.vm.Alike V.vm := hv ▸ Vm.Alike.refl U.vm
  exact ⟨va_K.moved ha h.1, fun w hw => va_Nw.same (nest_on (List.mem_filter.mp hw).2) hv (h.2.1 w hw), va_AO.moved ha h.2.2.1, va_AOA.moved ha h.2.2.2.1, va_AOA.moved ha h.2.2.2.2⟩
/-- a method that only reads: its start -/
def PcR (av : List Value) (dC : Nat → ClassId) (dI : Nat → Nat → Nat) (G : Nat → ClassId) (ws : va_W) (sz : Nat) : Array Value → State → Prop := va_Pc av (fun U => U.heap.size = sz ∧ va_P (dC, dI) vwCl ws U.heap ∧ KK dC dI G U)
/-- a method that writes: its start -/
def PcW (av : List Value) (dC : Nat → ClassId) (dI : Nat → Nat → Nat) (G : Nat → ClassId) (ws : va_W) (sz : Nat) : Array Value → State → Prop := va_Pc av (fun U => U.heap.size = sz ∧ va_P (dC, dI) vwCl ws U.heap ∧ KK dC dI G U ∧ va_D (fun _ => True) ws)
theorem PcR.blind {av : List Value} {dC : Nat → ClassId} {dI : Nat → Nat → Nat} {G : Nat → ClassId} {ws : va_W} {sz : Nat} : FrameBlind (PcR av dC dI G ws sz) := fun a U g mk q => by
  obtain ⟨q0, q1, q2, q3⟩ := q
  exact ⟨q0, q1, q2, KK.calling (U := U) (V := U.calling g mk a) rfl q3⟩
theorem PcW.blind {av : List Value} {dC : Nat → ClassId} {dI : Nat → Nat → Nat} {G : Nat → ClassId} {ws : va_W} {sz : Nat} : FrameBlind (PcW av dC dI G ws sz) := fun a U g mk q => by
  obtain ⟨q0, q1, q2, q3, q4⟩ := q
  exact ⟨q0, q1, q2, KK.calling (U := U) (V := U.calling g mk a) rfl q3, q4⟩
theorem preSR {s : State} {H : Heap} {As : List Value} {dC : Nat → ClassId} {dI : Nat → Nat → Nat} {G : Nat → ClassId} {ws : va_W} (hK : KK dC dI G s) (hP : va_P (dC, dI) vwCl ws H) : PreS s H (PcR As dC dI G ws H.size) As :=
  ⟨PcR.blind, fun U hU hW => ⟨rfl, by rw [hU], by rw [hU]; exact hP, hK.warm hW⟩⟩
theorem preSW {s : State} {H : Heap} {As : List Value} {dC : Nat → ClassId} {dI : Nat → Nat → Nat} {G : Nat → ClassId} {A : Nat → Prop} {ws : va_W} (hK : KK dC dI G s) (hP : va_P (dC, dI) vwCl ws H) (hD : va_D A ws) : PreS s H (PcW As dC dI G ws H.size) As :=
  ⟨PcW.blind, fun U hU hW => ⟨rfl, by rw [hU], by rw [hU]; exact hP, hK.warm hW, hD.weaken (fun _ _ _ _ => trivial)⟩⟩
theorem preVR {s : State} {H : Heap} {As : List Value} {b : Nat} {dC : Nat → ClassId} {dI : Nat → Nat → Nat} {G : Nat → ClassId} {ws : va_W} {ci : Nat} {r : vw_C} {fs : List Value} (hK : KK dC dI G s) (hP : va_P (dC, dI) vwCl ws H) (hc : vwCl[ci]? = some r) (he : ws[0]? = some (b, .inr (ci, fs))) : PreV s H r.1 b (PcR (.ref b :: As) dC dI G ws H.size) As :=
  ⟨PcR.blind, va_recv hK.1 hP hc he, fun U hU hW => ⟨rfl, by rw [hU], by rw [hU]; exact hP, hK.warm hW⟩⟩
theorem preVW {s : State} {H : Heap} {As : List Value} {b : Nat} {dC : Nat → ClassId} {dI : Nat → Nat → Nat} {G : Nat → ClassId} {A : Nat → Prop} {ws : va_W} {ci : Nat} {r : vw_C} {fs : List Value} (hK : KK dC dI G s) (hP : va_P (dC, dI) vwCl ws H) (hD : va_D A ws) (hc : vwCl[ci]? = some r) (he : ws[0]? = some (b, .inr (ci, fs))) : PreV s H r.1 b (PcW (.ref b :: As) dC dI G ws H.size) As :=
  ⟨PcW.blind, va_recv hK.1 hP hc he, fun U hU hW => ⟨rfl, by rw [hU], by rw [hU]; exact hP, hK.warm hW, hD.weaken (fun _ _ _ _ => trivial)⟩⟩
/-- behind a call that only read -/
theorem keepR {D : va_G} {cl : List vw_C} {ws : va_W} {H H1 : Heap} (hP : va_P D cl ws H) (hk : ∀ q : Nat, q < H.size → ¬ H.size ≤ q → H1[q]? = H[q]?) : va_P D cl ws H1 :=
  hP.kept (fun k q hq => hk q.1 (hP k q hq).lt (Nat.not_le.mpr (hP k q hq).lt))
/-- what the words say of a method: instance, static, constructor -/
def MF (y : MethodName) (bytes : ByteArray) (maxL : Nat) (ret : Option FieldType) (n : Nat) : Prop := Cond.code y bytes maxL ret ∈ GT ∧ Cond.instanceMethod y ∈ GT ∧ Cond.selects y.cls y y ∈ GT ∧ Cond.initialized y.cls ∈ GT ∧ (y.cls ≠ "java/lang/invoke/MethodHandle" ∧ y.cls ≠ "java/lang/invoke/VarHandle" ∧ (parseMethodDescriptor y.desc).map (fun d => d.parameters.length) = some n)
def MFS (y : MethodName) (bytes : ByteArray) (maxL : Nat) (ret : Option FieldType) (n : Nat) : Prop := Cond.code y bytes maxL ret ∈ GT ∧ Cond.static y ∈ GT ∧ Cond.initialized y.cls ∈ GT ∧ (y.cls ≠ "java/lang/invoke/MethodHandle" ∧ y.cls ≠ "java/lang/invoke/VarHandle" ∧ (parseMethodDescriptor y.desc).map (fun d => d.parameters.length) = some n)
def MFI (y : MethodName) (bytes : ByteArray) (maxL : Nat) (n : Nat) : Prop := Cond.code y bytes maxL none ∈ GT ∧ Cond.instanceMethod y ∈ GT ∧ Cond.initialized y.cls ∈ GT ∧ y.name = "<init>" ∧ (y.cls ≠ "java/lang/invoke/MethodHandle" ∧ y.cls ≠ "java/lang/invoke/VarHandle" ∧ (parseMethodDescriptor y.desc).map (fun d => d.parameters.length) = some n)
section KW
variable {R : Room} {s : State} {args : Array Value} {own host : String} {idx maxL n : Nat} {y : MethodName} {bytes : ByteArray} {ret : Option FieldType} {rm : Room}
theorem kwV (hg : ∀ w ∈ GT, w.before args s = true) (h : MF y bytes maxL ret n) (hl : Cond.methodLink own idx y ∈ GT) (hR : rm.frames + 1 ≤ R.frames ∧ 8 + (maxL + 11) + rm.locals ≤ R.locals) : CallW R s args own y.cls idx y bytes maxL ret (Cond.code y bytes maxL ret :: GT) rm rm.cells rm.slots n :=
  ⟨callB_of n hg (GT_cons h.1) rfl rfl rfl (hg _ h.2.2.2.1) (hg _ hl) h.2.2.2.2 hR, hg _ h.2.1, hg _ h.2.2.1⟩
theorem kwVN {dC : Nat → ClassId} {dI : Nat → Nat → Nat} {G : Nat → ClassId} (hg : ∀ w ∈ GT, w.before args s = true) (hK : KK dC dI G s) (h : MF y bytes maxL ret n) (hl : Cond.methodLinkNest own idx y host ∈ NT) (hR : rm.frames + 1 ≤ R.frames ∧ 8 + (maxL + 11) + rm.locals ≤ R.locals) : va_CN R s args own idx y host bytes maxL ret (Cond.code y bytes maxL ret :: GT) rm rm.cells rm.slots n ∧ (Cond.instanceMethod y).before args s = true ∧ (Cond.selects y.cls y y).before args s = true :=
  ⟨va_cnB n hg (GT_cons h.1) rfl rfl rfl (hK.2.1 _ hl) (hg _ h.2.2.2.1) h.2.2.2.2 hR, hg _ h.2.1, hg _ h.2.2.1⟩
theorem kwS (hg : ∀ w ∈ GT, w.before args s = true) (h : MFS y bytes maxL ret n) (hl : Cond.methodLink own idx y ∈ GT) (hR : rm.frames + 1 ≤ R.frames ∧ 8 + (maxL + 11) + rm.locals ≤ R.locals) : CallB R s args own idx y bytes maxL ret (Cond.code y bytes maxL ret :: GT) rm rm.cells rm.slots n ∧ (Cond.static y).before args s = true :=
  ⟨callB_of n hg (GT_cons h.1) rfl rfl rfl (hg _ h.2.2.1) (hg _ hl) h.2.2.2 hR, hg _ h.2.1⟩
theorem kwSN {dC : Nat → ClassId} {dI : Nat → Nat → Nat} {G : Nat → ClassId} (hg : ∀ w ∈ GT, w.before args s = true) (hK : KK dC dI G s) (h : MFS y bytes maxL ret n) (hl : Cond.methodLinkNest own idx y host ∈ NT) (hR : rm.frames + 1 ≤ R.frames ∧ 8 + (maxL + 11) + rm.locals ≤ R.locals) : va_CN R s args own idx y host bytes maxL ret (Cond.code y bytes maxL ret :: GT) rm rm.cells rm.slots n ∧ (Cond.static y).before args s = true ∧ True :=
  ⟨va_cnB n hg (GT_cons h.1) rfl rfl rfl (hK.2.1 _ hl) (hg _ h.2.2.1) h.2.2.2 hR, hg _ h.2.1, trivial⟩
theorem kwI (hg : ∀ w ∈ GT, w.before args s = true) (h : MFI y bytes maxL n) (hl : Cond.methodLink own idx y ∈ GT) (hR : rm.frames + 1 ≤ R.frames ∧ 8 + (maxL + 11) + rm.locals ≤ R.locals) : CallB R s args own idx y bytes maxL none (Cond.code y bytes maxL none :: GT) rm rm.cells rm.slots n ∧ y.name = "<init>" ∧ (Cond.instanceMethod y).before args s = true :=
  ⟨callB_of n hg (GT_cons h.1) rfl rfl rfl (hg _ h.2.2.1) (hg _ hl) h.2.2.2.2 hR, h.2.2.2.1, hg _ h.2.1⟩
theorem kwIN {dC : Nat → ClassId} {dI : Nat → Nat → Nat} {G : Nat → ClassId} (hg : ∀ w ∈ GT, w.before args s = true) (hK : KK dC dI G s) (h : MFI y bytes maxL n) (hl : Cond.methodLinkNest own idx y host ∈ NT) (hR : rm.frames + 1 ≤ R.frames ∧ 8 + (maxL + 11) + rm.locals ≤ R.locals) : va_CN R s args own idx y host bytes maxL none (Cond.code y bytes maxL none :: GT) rm rm.cells rm.slots n ∧ y.name = "<init>" ∧ (Cond.instanceMethod y).before args s = true :=
  ⟨va_cnB n hg (GT_cons h.1) rfl rfl rfl (hK.2.1 _ hl) (hg _ h.2.2.1) h.2.2.2.2 hR, h.2.2.2.1, hg _ h.2.1⟩
end KW
section LVX
variable {p : Program} {l : Launch} {e : Env} {R : Room} {s : State} {m : MethodId} {args : Array Value} {below : List Frame} {meth : Method} {c : Code} {H : Heap} {locs : List Loc} {cells slots : Nat} {Q : State → Prop} {pc : Nat} {ls : Array Slot} {rest : List Value}
/-- the top of the stack by another name -/
theorem lv_cg {x y : Int32} (h : x = y) (k : W p l e R s m args below meth c H locs cells slots Q (F0 m pc ls (.int y :: rest))) : W p l e R s m args below meth c H locs cells slots Q (F0 m pc ls (.int x :: rest)) := h ▸ k
theorem lv_cgl {x y : Int64} (h : x = y) (k : W p l e R s m args below meth c H locs cells slots Q (F0 m pc ls (.long y :: rest))) : W p l e R s m args below meth c H locs cells slots Q (F0 m pc ls (.long x :: rest)) := h ▸ k
theorem lv_cgv {x y : Value} (h : x = y) (k : W p l e R s m args below meth c H locs cells slots Q (F0 m pc ls (y :: rest))) : W p l e R s m args below meth c H locs cells slots Q (F0 m pc ls (x :: rest)) := h ▸ k
end LVX
/-- the new array's class is the one that is known -/
theorem uniA {D : va_G} {cl : List vw_C} {tys : List (ClassId × FieldType)} {s : State} {cA cB : ClassId} {ty : FieldType} (h : va_K D cl (tys ++ [(cA, ty)]) s) (i : Nat) (hi : tys[i]? = some (cB, ty)) : cA = cB := by
  have h1 := (h.2 tys.length (cA, ty) (by simp)).2
  have hl := (List.getElem?_eq_some_iff.mp hi).1
  have h2 := (h.2 i (cB, ty) (by rw [List.getElem?_append_left hl]; exact hi)).2
  cases ty with
  | object C =>
    obtain ⟨-, -, -, -, -, e1⟩ := h1
    obtain ⟨-, -, -, -, -, e2⟩ := h2
    exact Option.some.inj (e1.symm.trans e2)
  | _ => exact Option.some.inj (h1.symm.trans h2)
theorem ltI {x y : Int32} (h : x < y) : x.toInt < y.toInt := Int32.lt_iff_toInt_lt.mp h
theorem nltI {x y : Int32} (h : ¬ x < y) : ¬ x.toInt < y.toInt := fun q => h (Int32.lt_iff_toInt_lt.mpr q)
theorem leI {x y : Int32} (h : x ≤ y) : x.toInt ≤ y.toInt := Int32.le_iff_toInt_le.mp h
theorem nleI {x y : Int32} (h : ¬ x ≤ y) : ¬ x.toInt ≤ y.toInt := fun q => h (Int32.le_iff_toInt_le.mpr q)
theorem eqI {x y : Int32} (h : x = y) : x.toInt = y.toInt := congrArg Int32.toInt h
theorem neI {x y : Int32} (h : ¬ x = y) : ¬ x.toInt = y.toInt := fun q => h (Int32.toInt_inj.mp q)
theorem ltL {x y : Int64} (h : x < y) : x.toInt < y.toInt := Int64.lt_iff_toInt_lt.mp h
theorem nltL {x y : Int64} (h : ¬ x < y) : ¬ x.toInt < y.toInt := fun q => h (Int64.lt_iff_toInt_lt.mpr q)
theorem leL {x y : Int64} (h : x ≤ y) : x.toInt ≤ y.toInt := Int64.le_iff_toInt_le.mp h
theorem nleL {x y : Int64} (h : ¬ x ≤ y) : ¬ x.toInt ≤ y.toInt := fun q => h (Int64.le_iff_toInt_le.mpr q)

theorem wt_1 : (Jvm.Cond.initialized "AsleepPass") ∈ GT := mT 1 (by decide +kernel) rfl
theorem wt_2 : (Jvm.Cond.initialized "AsleepPass$Reader") ∈ GT := mT 2 (by decide +kernel) rfl
theorem wt_3 : (Jvm.Cond.initialized "AsleepPass$Tape") ∈ GT := mT 3 (by decide +kernel) rfl
theorem wt_4 : (Jvm.Cond.initialized "AsleepPass$Way") ∈ GT := mT 4 (by decide +kernel) rfl
theorem wt_5 : (Jvm.Cond.initialized "AsleepPass$Odds") ∈ GT := mT 5 (by decide +kernel) rfl
theorem wt_6 : (Jvm.Cond.initialized "AsleepPass$Choice") ∈ GT := mT 6 (by decide +kernel) rfl
theorem wt_7 : (Jvm.Cond.initialized "AsleepPass$Crossing") ∈ GT := mT 7 (by decide +kernel) rfl
theorem wt_8 : (Jvm.Cond.initialized "AsleepPass$Learnt") ∈ GT := mT 8 (by decide +kernel) rfl
theorem wt_9 : (Jvm.Cond.initialized "AsleepPass$Marked") ∈ GT := mT 9 (by decide +kernel) rfl
theorem wt_10 : (Jvm.Cond.initialized "AsleepPass$Trails") ∈ GT := mT 10 (by decide +kernel) rfl
theorem wt_11 : (Jvm.Cond.initialized "AsleepPass$Sheets") ∈ GT := mT 11 (by decide +kernel) rfl
theorem wt_12 : (Jvm.Cond.initialized "AsleepPassModel") ∈ GT := mT 12 (by decide +kernel) rfl
theorem wt_13 : (Jvm.Cond.initialized "java/lang/String") ∈ GT := mT 13 (by decide +kernel) rfl
theorem wt_14 : (Jvm.Cond.initialized "java/lang/StringLatin1") ∈ GT := mT 14 (by decide +kernel) rfl
theorem wt_15 : (Jvm.Cond.initialized "jdk/internal/util/Preconditions") ∈ GT := mT 15 (by decide +kernel) rfl
theorem wt_17 : (Jvm.Cond.initialized "java/lang/Math") ∈ GT := mT 17 (by decide +kernel) rfl
theorem wt_18 : (Jvm.Cond.initialized "java/lang/System") ∈ GT := mT 18 (by decide +kernel) rfl
theorem wt_19 : (Jvm.Cond.initialized "java/lang/Integer") ∈ GT := mT 19 (by decide +kernel) rfl
theorem wt_20 : (Jvm.Cond.classLink "AsleepPassLaw" (7 : Nat) "AsleepPass") ∈ GT := mT 20 (by decide +kernel) rfl
theorem wt_21 : (Jvm.Cond.instantiable "AsleepPass" (14 : Nat)) ∈ GT := mT 21 (by decide +kernel) rfl
theorem wt_22 : (Jvm.Cond.methodLink "AsleepPassLaw" (9 : Nat) ({ cls := "AsleepPass", name := "<init>", desc := "()V" } : Jvm.MethodName)) ∈ GT := mT 22 (by decide +kernel) rfl
theorem wt_23 : (Jvm.Cond.instanceMethod ({ cls := "AsleepPass", name := "<init>", desc := "()V" } : Jvm.MethodName)) ∈ GT := mT 23 (by decide +kernel) rfl
theorem wt_24 : (Jvm.Cond.code ({ cls := "AsleepPass", name := "<init>", desc := "()V" } : Jvm.MethodName) prog_1_method_1_code (2 : Nat) (Option.none : Option Jvm.ClassFile.FieldType)) ∈ GT := mT 24 (by decide +kernel) rfl
theorem wt_25 : (Jvm.Cond.methodLink "AsleepPass" (1 : Nat) ({ cls := "java/lang/Object", name := "<init>", desc := "()V" } : Jvm.MethodName)) ∈ GT := mT 25 (by decide +kernel) rfl
theorem wt_26 : (Jvm.Cond.instanceMethod ({ cls := "java/lang/Object", name := "<init>", desc := "()V" } : Jvm.MethodName)) ∈ GT := mT 26 (by decide +kernel) rfl
theorem wt_27 : (Jvm.Cond.code ({ cls := "java/lang/Object", name := "<init>", desc := "()V" } : Jvm.MethodName) object_method_1_code (1 : Nat) (Option.none : Option Jvm.ClassFile.FieldType)) ∈ GT := mT 27 (by decide +kernel) rfl
theorem wt_28 : (Jvm.Cond.classLink "AsleepPass" (7 : Nat) "AsleepPass$Reader") ∈ GT := mT 28 (by decide +kernel) rfl
theorem wt_29 : (Jvm.Cond.instantiable "AsleepPass$Reader" (12 : Nat)) ∈ GT := mT 29 (by decide +kernel) rfl
theorem wn_30 : (Jvm.Cond.methodLinkNest "AsleepPass" (9 : Nat) ({ cls := "AsleepPass$Reader", name := "<init>", desc := "()V" } : Jvm.MethodName) "AsleepPass") ∈ NT := mN 30 (by decide +kernel) rfl
theorem wt_31 : (Jvm.Cond.instanceMethod ({ cls := "AsleepPass$Reader", name := "<init>", desc := "()V" } : Jvm.MethodName)) ∈ GT := mT 31 (by decide +kernel) rfl
theorem wt_32 : (Jvm.Cond.code ({ cls := "AsleepPass$Reader", name := "<init>", desc := "()V" } : Jvm.MethodName) prog_7_method_1_code (1 : Nat) (Option.none : Option Jvm.ClassFile.FieldType)) ∈ GT := mT 32 (by decide +kernel) rfl
theorem wt_33 : (Jvm.Cond.methodLink "AsleepPass$Reader" (3 : Nat) ({ cls := "java/lang/Object", name := "<init>", desc := "()V" } : Jvm.MethodName)) ∈ GT := mT 33 (by decide +kernel) rfl
theorem wt_34 : (Jvm.Cond.classLink "AsleepPass$Reader" (9 : Nat) "AsleepPass$Tape") ∈ GT := mT 34 (by decide +kernel) rfl
theorem wt_35 : (Jvm.Cond.instantiable "AsleepPass$Tape" (2 : Nat)) ∈ GT := mT 35 (by decide +kernel) rfl
theorem wn_36 : (Jvm.Cond.methodLinkNest "AsleepPass$Reader" (11 : Nat) ({ cls := "AsleepPass$Tape", name := "<init>", desc := "()V" } : Jvm.MethodName) "AsleepPass") ∈ NT := mN 36 (by decide +kernel) rfl
theorem wt_37 : (Jvm.Cond.instanceMethod ({ cls := "AsleepPass$Tape", name := "<init>", desc := "()V" } : Jvm.MethodName)) ∈ GT := mT 37 (by decide +kernel) rfl
theorem wt_38 : (Jvm.Cond.code ({ cls := "AsleepPass$Tape", name := "<init>", desc := "()V" } : Jvm.MethodName) prog_9_method_1_code (1 : Nat) (Option.none : Option Jvm.ClassFile.FieldType)) ∈ GT := mT 38 (by decide +kernel) rfl
theorem wt_39 : (Jvm.Cond.methodLink "AsleepPass$Tape" (1 : Nat) ({ cls := "java/lang/Object", name := "<init>", desc := "()V" } : Jvm.MethodName)) ∈ GT := mT 39 (by decide +kernel) rfl
theorem wt_40 : (Jvm.Cond.fieldLink "AsleepPass$Tape" (13 : Nat) "AsleepPass$Tape" "length" "I") ∈ GT := mT 40 (by decide +kernel) rfl
theorem wn_41 : (Jvm.Cond.fieldLinkNest "AsleepPass$Reader" (32 : Nat) "AsleepPass$Tape" "length" "I" "AsleepPass") ∈ NT := mN 41 (by decide +kernel) rfl
theorem wn_42 : (Jvm.Cond.fieldLinkNest "AsleepPass" (93 : Nat) "AsleepPass$Tape" "length" "I" "AsleepPass") ∈ NT := mN 42 (by decide +kernel) rfl
theorem wt_43 : (Jvm.Cond.fieldLink "AsleepPass$Tape" (9 : Nat) "AsleepPass$Tape" "bytes" "[I") ∈ GT := mT 43 (by decide +kernel) rfl
theorem wt_44 : (Jvm.Cond.lays "AsleepPass$Tape" "AsleepPass$Tape" "length" "I") ∈ GT := mT 44 (by decide +kernel) rfl
theorem wt_46 : (Jvm.Cond.laysFinal "AsleepPass$Tape" "AsleepPass$Tape" "bytes" "[I") ∈ GT := mT 46 (by decide +kernel) rfl
theorem wt_49 : (Jvm.Cond.arrayClass Jvm.ClassFile.FieldType.int) ∈ GT := mT 49 (by decide +kernel) rfl
theorem wt_50 : (Jvm.Cond.classLink "AsleepPass$Reader" (18 : Nat) "AsleepPass$Way") ∈ GT := mT 50 (by decide +kernel) rfl
theorem wt_51 : (Jvm.Cond.instantiable "AsleepPass$Way" (9 : Nat)) ∈ GT := mT 51 (by decide +kernel) rfl
theorem wn_52 : (Jvm.Cond.methodLinkNest "AsleepPass$Reader" (20 : Nat) ({ cls := "AsleepPass$Way", name := "<init>", desc := "()V" } : Jvm.MethodName) "AsleepPass") ∈ NT := mN 52 (by decide +kernel) rfl
theorem wt_53 : (Jvm.Cond.instanceMethod ({ cls := "AsleepPass$Way", name := "<init>", desc := "()V" } : Jvm.MethodName)) ∈ GT := mT 53 (by decide +kernel) rfl
theorem wt_54 : (Jvm.Cond.code ({ cls := "AsleepPass$Way", name := "<init>", desc := "()V" } : Jvm.MethodName) prog_11_method_1_code (1 : Nat) (Option.none : Option Jvm.ClassFile.FieldType)) ∈ GT := mT 54 (by decide +kernel) rfl
theorem wt_55 : (Jvm.Cond.methodLink "AsleepPass$Way" (3 : Nat) ({ cls := "java/lang/Object", name := "<init>", desc := "()V" } : Jvm.MethodName)) ∈ GT := mT 55 (by decide +kernel) rfl
theorem wt_56 : (Jvm.Cond.fieldLink "AsleepPass$Way" (34 : Nat) "AsleepPass$Way" "stretches" "I") ∈ GT := mT 56 (by decide +kernel) rfl
theorem wn_57 : (Jvm.Cond.fieldLinkNest "AsleepPass$Crossing" (26 : Nat) "AsleepPass$Way" "stretches" "I" "AsleepPass") ∈ NT := mN 57 (by decide +kernel) rfl
theorem wn_58 : (Jvm.Cond.fieldLinkNest "AsleepPass$Trails" (25 : Nat) "AsleepPass$Way" "stretches" "I" "AsleepPass") ∈ NT := mN 58 (by decide +kernel) rfl
theorem wn_59 : (Jvm.Cond.fieldLinkNest "AsleepPass$Choice" (25 : Nat) "AsleepPass$Way" "stretches" "I" "AsleepPass") ∈ NT := mN 59 (by decide +kernel) rfl
theorem wn_60 : (Jvm.Cond.fieldLinkNest "AsleepPass" (123 : Nat) "AsleepPass$Way" "stretches" "I" "AsleepPass") ∈ NT := mN 60 (by decide +kernel) rfl
theorem wn_61 : (Jvm.Cond.fieldLinkNest "AsleepPass$Reader" (129 : Nat) "AsleepPass$Way" "stretches" "I" "AsleepPass") ∈ NT := mN 61 (by decide +kernel) rfl
theorem wt_62 : (Jvm.Cond.fieldLink "AsleepPass$Way" (37 : Nat) "AsleepPass$Way" "bearers" "I") ∈ GT := mT 62 (by decide +kernel) rfl
theorem wn_63 : (Jvm.Cond.fieldLinkNest "AsleepPass$Choice" (37 : Nat) "AsleepPass$Way" "bearers" "I" "AsleepPass") ∈ NT := mN 63 (by decide +kernel) rfl
theorem wn_64 : (Jvm.Cond.fieldLinkNest "AsleepPass" (126 : Nat) "AsleepPass$Way" "bearers" "I" "AsleepPass") ∈ NT := mN 64 (by decide +kernel) rfl
theorem wn_65 : (Jvm.Cond.fieldLinkNest "AsleepPass$Reader" (136 : Nat) "AsleepPass$Way" "bearers" "I" "AsleepPass") ∈ NT := mN 65 (by decide +kernel) rfl
theorem wt_66 : (Jvm.Cond.fieldLink "AsleepPass$Way" (9 : Nat) "AsleepPass$Way" "startDepth" "I") ∈ GT := mT 66 (by decide +kernel) rfl
theorem wn_67 : (Jvm.Cond.fieldLinkNest "AsleepPass$Odds" (22 : Nat) "AsleepPass$Way" "startDepth" "I" "AsleepPass") ∈ NT := mN 67 (by decide +kernel) rfl
theorem wn_68 : (Jvm.Cond.fieldLinkNest "AsleepPass$Crossing" (9 : Nat) "AsleepPass$Way" "startDepth" "I" "AsleepPass") ∈ NT := mN 68 (by decide +kernel) rfl
theorem wn_69 : (Jvm.Cond.fieldLinkNest "AsleepPass$Trails" (19 : Nat) "AsleepPass$Way" "startDepth" "I" "AsleepPass") ∈ NT := mN 69 (by decide +kernel) rfl
theorem wn_70 : (Jvm.Cond.fieldLinkNest "AsleepPass$Choice" (59 : Nat) "AsleepPass$Way" "startDepth" "I" "AsleepPass") ∈ NT := mN 70 (by decide +kernel) rfl
theorem wn_71 : (Jvm.Cond.fieldLinkNest "AsleepPass" (129 : Nat) "AsleepPass$Way" "startDepth" "I" "AsleepPass") ∈ NT := mN 71 (by decide +kernel) rfl
theorem wn_72 : (Jvm.Cond.fieldLinkNest "AsleepPass$Reader" (123 : Nat) "AsleepPass$Way" "startDepth" "I" "AsleepPass") ∈ NT := mN 72 (by decide +kernel) rfl
theorem wt_73 : (Jvm.Cond.fieldLink "AsleepPass$Way" (15 : Nat) "AsleepPass$Way" "noises" "[I") ∈ GT := mT 73 (by decide +kernel) rfl
theorem wn_74 : (Jvm.Cond.fieldLinkNest "AsleepPass" (136 : Nat) "AsleepPass$Way" "noises" "[I" "AsleepPass") ∈ NT := mN 74 (by decide +kernel) rfl
theorem wt_75 : (Jvm.Cond.fieldLink "AsleepPass$Way" (19 : Nat) "AsleepPass$Way" "colds" "[I") ∈ GT := mT 75 (by decide +kernel) rfl
theorem wn_76 : (Jvm.Cond.fieldLinkNest "AsleepPass" (140 : Nat) "AsleepPass$Way" "colds" "[I" "AsleepPass") ∈ NT := mN 76 (by decide +kernel) rfl
theorem wt_77 : (Jvm.Cond.fieldLink "AsleepPass$Way" (22 : Nat) "AsleepPass$Way" "order" "[I") ∈ GT := mT 77 (by decide +kernel) rfl
theorem wn_78 : (Jvm.Cond.fieldLinkNest "AsleepPass" (143 : Nat) "AsleepPass$Way" "order" "[I" "AsleepPass") ∈ NT := mN 78 (by decide +kernel) rfl
theorem wn_79 : (Jvm.Cond.fieldLinkNest "AsleepPass$Reader" (146 : Nat) "AsleepPass$Way" "order" "[I" "AsleepPass") ∈ NT := mN 79 (by decide +kernel) rfl
theorem wt_80 : (Jvm.Cond.fieldLink "AsleepPass$Way" (25 : Nat) "AsleepPass$Way" "kinds" "[I") ∈ GT := mT 80 (by decide +kernel) rfl
theorem wn_81 : (Jvm.Cond.fieldLinkNest "AsleepPass" (149 : Nat) "AsleepPass$Way" "kinds" "[I" "AsleepPass") ∈ NT := mN 81 (by decide +kernel) rfl
theorem wt_82 : (Jvm.Cond.fieldLink "AsleepPass$Way" (28 : Nat) "AsleepPass$Way" "paces" "[I") ∈ GT := mT 82 (by decide +kernel) rfl
theorem wn_83 : (Jvm.Cond.fieldLinkNest "AsleepPass" (152 : Nat) "AsleepPass$Way" "paces" "[I" "AsleepPass") ∈ NT := mN 83 (by decide +kernel) rfl
theorem wt_84 : (Jvm.Cond.fieldLink "AsleepPass$Way" (31 : Nat) "AsleepPass$Way" "warmths" "[I") ∈ GT := mT 84 (by decide +kernel) rfl
theorem wn_85 : (Jvm.Cond.fieldLinkNest "AsleepPass" (155 : Nat) "AsleepPass$Way" "warmths" "[I" "AsleepPass") ∈ NT := mN 85 (by decide +kernel) rfl
theorem wt_86 : (Jvm.Cond.lays "AsleepPass$Way" "AsleepPass$Way" "stretches" "I") ∈ GT := mT 86 (by decide +kernel) rfl
theorem wt_88 : (Jvm.Cond.lays "AsleepPass$Way" "AsleepPass$Way" "bearers" "I") ∈ GT := mT 88 (by decide +kernel) rfl
theorem wt_90 : (Jvm.Cond.lays "AsleepPass$Way" "AsleepPass$Way" "startDepth" "I") ∈ GT := mT 90 (by decide +kernel) rfl
theorem wt_92 : (Jvm.Cond.laysFinal "AsleepPass$Way" "AsleepPass$Way" "noises" "[I") ∈ GT := mT 92 (by decide +kernel) rfl
theorem wt_94 : (Jvm.Cond.laysFinal "AsleepPass$Way" "AsleepPass$Way" "colds" "[I") ∈ GT := mT 94 (by decide +kernel) rfl
theorem wt_96 : (Jvm.Cond.laysFinal "AsleepPass$Way" "AsleepPass$Way" "order" "[I") ∈ GT := mT 96 (by decide +kernel) rfl
theorem wt_98 : (Jvm.Cond.laysFinal "AsleepPass$Way" "AsleepPass$Way" "kinds" "[I") ∈ GT := mT 98 (by decide +kernel) rfl
theorem wt_100 : (Jvm.Cond.laysFinal "AsleepPass$Way" "AsleepPass$Way" "paces" "[I") ∈ GT := mT 100 (by decide +kernel) rfl
theorem wt_102 : (Jvm.Cond.laysFinal "AsleepPass$Way" "AsleepPass$Way" "warmths" "[I") ∈ GT := mT 102 (by decide +kernel) rfl
theorem wt_105 : (Jvm.Cond.fieldLink "AsleepPass$Reader" (12 : Nat) "AsleepPass$Reader" "tape" "LAsleepPass$Tape;") ∈ GT := mT 105 (by decide +kernel) rfl
theorem wn_106 : (Jvm.Cond.fieldLinkNest "AsleepPass" (83 : Nat) "AsleepPass$Reader" "tape" "LAsleepPass$Tape;" "AsleepPass") ∈ NT := mN 106 (by decide +kernel) rfl
theorem wt_107 : (Jvm.Cond.fieldLink "AsleepPass$Reader" (21 : Nat) "AsleepPass$Reader" "told" "LAsleepPass$Way;") ∈ GT := mT 107 (by decide +kernel) rfl
theorem wn_108 : (Jvm.Cond.fieldLinkNest "AsleepPass" (109 : Nat) "AsleepPass$Reader" "told" "LAsleepPass$Way;" "AsleepPass") ∈ NT := mN 108 (by decide +kernel) rfl
theorem wt_109 : (Jvm.Cond.fieldLink "AsleepPass$Reader" (36 : Nat) "AsleepPass$Reader" "found" "I") ∈ GT := mT 109 (by decide +kernel) rfl
theorem wn_110 : (Jvm.Cond.fieldLinkNest "AsleepPass" (100 : Nat) "AsleepPass$Reader" "found" "I" "AsleepPass") ∈ NT := mN 110 (by decide +kernel) rfl
theorem wt_111 : (Jvm.Cond.fieldLink "AsleepPass$Reader" (54 : Nat) "AsleepPass$Reader" "place" "I") ∈ GT := mT 111 (by decide +kernel) rfl
theorem wn_112 : (Jvm.Cond.fieldLinkNest "AsleepPass" (106 : Nat) "AsleepPass$Reader" "place" "I" "AsleepPass") ∈ NT := mN 112 (by decide +kernel) rfl
theorem wt_113 : (Jvm.Cond.fieldLink "AsleepPass$Reader" (45 : Nat) "AsleepPass$Reader" "lines" "I") ∈ GT := mT 113 (by decide +kernel) rfl
theorem wn_114 : (Jvm.Cond.fieldLinkNest "AsleepPass" (120 : Nat) "AsleepPass$Reader" "lines" "I" "AsleepPass") ∈ NT := mN 114 (by decide +kernel) rfl
theorem wt_115 : (Jvm.Cond.fieldLink "AsleepPass$Reader" (39 : Nat) "AsleepPass$Reader" "token" "I") ∈ GT := mT 115 (by decide +kernel) rfl
theorem wt_116 : (Jvm.Cond.fieldLink "AsleepPass$Reader" (77 : Nat) "AsleepPass$Reader" "first" "I") ∈ GT := mT 116 (by decide +kernel) rfl
theorem wt_117 : (Jvm.Cond.fieldLink "AsleepPass$Reader" (57 : Nat) "AsleepPass$Reader" "past" "I") ∈ GT := mT 117 (by decide +kernel) rfl
theorem wt_118 : (Jvm.Cond.fieldLink "AsleepPass$Reader" (60 : Nat) "AsleepPass$Reader" "startTold" "Z") ∈ GT := mT 118 (by decide +kernel) rfl
theorem wt_119 : (Jvm.Cond.fieldLink "AsleepPass$Reader" (64 : Nat) "AsleepPass$Reader" "carried" "I") ∈ GT := mT 119 (by decide +kernel) rfl
theorem wt_120 : (Jvm.Cond.fieldLink "AsleepPass$Reader" (67 : Nat) "AsleepPass$Reader" "furthestStretch" "I") ∈ GT := mT 120 (by decide +kernel) rfl
theorem wt_121 : (Jvm.Cond.fieldLink "AsleepPass$Reader" (70 : Nat) "AsleepPass$Reader" "furthestBearer" "I") ∈ GT := mT 121 (by decide +kernel) rfl
theorem wt_122 : (Jvm.Cond.laysFinal "AsleepPass$Reader" "AsleepPass$Reader" "tape" "LAsleepPass$Tape;") ∈ GT := mT 122 (by decide +kernel) rfl
theorem wt_124 : (Jvm.Cond.laysFinal "AsleepPass$Reader" "AsleepPass$Reader" "told" "LAsleepPass$Way;") ∈ GT := mT 124 (by decide +kernel) rfl
theorem wt_126 : (Jvm.Cond.lays "AsleepPass$Reader" "AsleepPass$Reader" "found" "I") ∈ GT := mT 126 (by decide +kernel) rfl
theorem wt_128 : (Jvm.Cond.lays "AsleepPass$Reader" "AsleepPass$Reader" "place" "I") ∈ GT := mT 128 (by decide +kernel) rfl
theorem wt_130 : (Jvm.Cond.lays "AsleepPass$Reader" "AsleepPass$Reader" "lines" "I") ∈ GT := mT 130 (by decide +kernel) rfl
theorem wt_132 : (Jvm.Cond.lays "AsleepPass$Reader" "AsleepPass$Reader" "token" "I") ∈ GT := mT 132 (by decide +kernel) rfl
theorem wt_134 : (Jvm.Cond.lays "AsleepPass$Reader" "AsleepPass$Reader" "first" "I") ∈ GT := mT 134 (by decide +kernel) rfl
theorem wt_136 : (Jvm.Cond.lays "AsleepPass$Reader" "AsleepPass$Reader" "past" "I") ∈ GT := mT 136 (by decide +kernel) rfl
theorem wt_138 : (Jvm.Cond.lays "AsleepPass$Reader" "AsleepPass$Reader" "startTold" "Z") ∈ GT := mT 138 (by decide +kernel) rfl
theorem wt_140 : (Jvm.Cond.lays "AsleepPass$Reader" "AsleepPass$Reader" "carried" "I") ∈ GT := mT 140 (by decide +kernel) rfl
theorem wt_142 : (Jvm.Cond.lays "AsleepPass$Reader" "AsleepPass$Reader" "furthestStretch" "I") ∈ GT := mT 142 (by decide +kernel) rfl
theorem wt_144 : (Jvm.Cond.lays "AsleepPass$Reader" "AsleepPass$Reader" "furthestBearer" "I") ∈ GT := mT 144 (by decide +kernel) rfl
theorem wt_147 : (Jvm.Cond.classLink "AsleepPass" (16 : Nat) "AsleepPass$Way") ∈ GT := mT 147 (by decide +kernel) rfl
theorem wn_148 : (Jvm.Cond.methodLinkNest "AsleepPass" (18 : Nat) ({ cls := "AsleepPass$Way", name := "<init>", desc := "()V" } : Jvm.MethodName) "AsleepPass") ∈ NT := mN 148 (by decide +kernel) rfl
theorem wt_150 : (Jvm.Cond.classLink "AsleepPass" (34 : Nat) "AsleepPass$Odds") ∈ GT := mT 150 (by decide +kernel) rfl
theorem wt_151 : (Jvm.Cond.instantiable "AsleepPass$Odds" (3 : Nat)) ∈ GT := mT 151 (by decide +kernel) rfl
theorem wn_152 : (Jvm.Cond.methodLinkNest "AsleepPass" (36 : Nat) ({ cls := "AsleepPass$Odds", name := "<init>", desc := "()V" } : Jvm.MethodName) "AsleepPass") ∈ NT := mN 152 (by decide +kernel) rfl
theorem wt_153 : (Jvm.Cond.instanceMethod ({ cls := "AsleepPass$Odds", name := "<init>", desc := "()V" } : Jvm.MethodName)) ∈ GT := mT 153 (by decide +kernel) rfl
theorem wt_154 : (Jvm.Cond.code ({ cls := "AsleepPass$Odds", name := "<init>", desc := "()V" } : Jvm.MethodName) prog_6_method_1_code (1 : Nat) (Option.none : Option Jvm.ClassFile.FieldType)) ∈ GT := mT 154 (by decide +kernel) rfl
theorem wt_155 : (Jvm.Cond.methodLink "AsleepPass$Odds" (3 : Nat) ({ cls := "java/lang/Object", name := "<init>", desc := "()V" } : Jvm.MethodName)) ∈ GT := mT 155 (by decide +kernel) rfl
theorem wt_156 : (Jvm.Cond.fieldLink "AsleepPass$Odds" (9 : Nat) "AsleepPass$Odds" "whole" "J") ∈ GT := mT 156 (by decide +kernel) rfl
theorem wn_157 : (Jvm.Cond.fieldLinkNest "AsleepPass" (179 : Nat) "AsleepPass$Odds" "whole" "J" "AsleepPass") ∈ NT := mN 157 (by decide +kernel) rfl
theorem wt_158 : (Jvm.Cond.fieldLink "AsleepPass$Odds" (15 : Nat) "AsleepPass$Odds" "shares" "[J") ∈ GT := mT 158 (by decide +kernel) rfl
theorem wn_159 : (Jvm.Cond.fieldLinkNest "AsleepPass" (194 : Nat) "AsleepPass$Odds" "shares" "[J" "AsleepPass") ∈ NT := mN 159 (by decide +kernel) rfl
theorem wt_160 : (Jvm.Cond.fieldLink "AsleepPass$Odds" (19 : Nat) "AsleepPass$Odds" "ahead" "[J") ∈ GT := mT 160 (by decide +kernel) rfl
theorem wt_161 : (Jvm.Cond.lays "AsleepPass$Odds" "AsleepPass$Odds" "whole" "J") ∈ GT := mT 161 (by decide +kernel) rfl
theorem wt_163 : (Jvm.Cond.laysFinal "AsleepPass$Odds" "AsleepPass$Odds" "shares" "[J") ∈ GT := mT 163 (by decide +kernel) rfl
theorem wt_165 : (Jvm.Cond.laysFinal "AsleepPass$Odds" "AsleepPass$Odds" "ahead" "[J") ∈ GT := mT 165 (by decide +kernel) rfl
theorem wt_168 : (Jvm.Cond.arrayClass Jvm.ClassFile.FieldType.boolean) ∈ GT := mT 168 (by decide +kernel) rfl
theorem wt_169 : (Jvm.Cond.arrayClass Jvm.ClassFile.FieldType.long) ∈ GT := mT 169 (by decide +kernel) rfl
theorem wt_170 : (Jvm.Cond.classLink "AsleepPass" (41 : Nat) "AsleepPass$Choice") ∈ GT := mT 170 (by decide +kernel) rfl
theorem wt_171 : (Jvm.Cond.instantiable "AsleepPass$Choice" (3 : Nat)) ∈ GT := mT 171 (by decide +kernel) rfl
theorem wn_172 : (Jvm.Cond.methodLinkNest "AsleepPass" (43 : Nat) ({ cls := "AsleepPass$Choice", name := "<init>", desc := "()V" } : Jvm.MethodName) "AsleepPass") ∈ NT := mN 172 (by decide +kernel) rfl
theorem wt_173 : (Jvm.Cond.instanceMethod ({ cls := "AsleepPass$Choice", name := "<init>", desc := "()V" } : Jvm.MethodName)) ∈ GT := mT 173 (by decide +kernel) rfl
theorem wt_174 : (Jvm.Cond.code ({ cls := "AsleepPass$Choice", name := "<init>", desc := "()V" } : Jvm.MethodName) prog_2_method_1_code (1 : Nat) (Option.none : Option Jvm.ClassFile.FieldType)) ∈ GT := mT 174 (by decide +kernel) rfl
theorem wt_175 : (Jvm.Cond.methodLink "AsleepPass$Choice" (3 : Nat) ({ cls := "java/lang/Object", name := "<init>", desc := "()V" } : Jvm.MethodName)) ∈ GT := mT 175 (by decide +kernel) rfl
theorem wt_176 : (Jvm.Cond.classLink "AsleepPass$Choice" (15 : Nat) "[[J") ∈ GT := mT 176 (by decide +kernel) rfl
theorem wt_178 : (Jvm.Cond.classLink "AsleepPass$Choice" (20 : Nat) "[[I") ∈ GT := mT 178 (by decide +kernel) rfl
theorem wt_180 : (Jvm.Cond.fieldLink "AsleepPass$Choice" (9 : Nat) "AsleepPass$Choice" "whole" "J") ∈ GT := mT 180 (by decide +kernel) rfl
theorem wn_181 : (Jvm.Cond.fieldLinkNest "AsleepPass" (206 : Nat) "AsleepPass$Choice" "whole" "J" "AsleepPass") ∈ NT := mN 181 (by decide +kernel) rfl
theorem wt_182 : (Jvm.Cond.fieldLink "AsleepPass$Choice" (17 : Nat) "AsleepPass$Choice" "waking" "[[J") ∈ GT := mT 182 (by decide +kernel) rfl
theorem wt_183 : (Jvm.Cond.fieldLink "AsleepPass$Choice" (22 : Nat) "AsleepPass$Choice" "chosen" "[[I") ∈ GT := mT 183 (by decide +kernel) rfl
theorem wn_184 : (Jvm.Cond.fieldLinkNest "AsleepPass" (207 : Nat) "AsleepPass$Choice" "chosen" "[[I" "AsleepPass") ∈ NT := mN 184 (by decide +kernel) rfl
theorem wt_185 : (Jvm.Cond.lays "AsleepPass$Choice" "AsleepPass$Choice" "whole" "J") ∈ GT := mT 185 (by decide +kernel) rfl
theorem wt_187 : (Jvm.Cond.laysFinal "AsleepPass$Choice" "AsleepPass$Choice" "waking" "[[J") ∈ GT := mT 187 (by decide +kernel) rfl
theorem wt_189 : (Jvm.Cond.laysFinal "AsleepPass$Choice" "AsleepPass$Choice" "chosen" "[[I") ∈ GT := mT 189 (by decide +kernel) rfl
theorem wt_192 : (Jvm.Cond.classLink "AsleepPass" (48 : Nat) "AsleepPass$Crossing") ∈ GT := mT 192 (by decide +kernel) rfl
theorem wt_193 : (Jvm.Cond.instantiable "AsleepPass$Crossing" (3 : Nat)) ∈ GT := mT 193 (by decide +kernel) rfl
theorem wn_194 : (Jvm.Cond.methodLinkNest "AsleepPass" (50 : Nat) ({ cls := "AsleepPass$Crossing", name := "<init>", desc := "()V" } : Jvm.MethodName) "AsleepPass") ∈ NT := mN 194 (by decide +kernel) rfl
theorem wt_195 : (Jvm.Cond.instanceMethod ({ cls := "AsleepPass$Crossing", name := "<init>", desc := "()V" } : Jvm.MethodName)) ∈ GT := mT 195 (by decide +kernel) rfl
theorem wt_196 : (Jvm.Cond.code ({ cls := "AsleepPass$Crossing", name := "<init>", desc := "()V" } : Jvm.MethodName) prog_3_method_1_code (1 : Nat) (Option.none : Option Jvm.ClassFile.FieldType)) ∈ GT := mT 196 (by decide +kernel) rfl
theorem wt_197 : (Jvm.Cond.methodLink "AsleepPass$Crossing" (3 : Nat) ({ cls := "java/lang/Object", name := "<init>", desc := "()V" } : Jvm.MethodName)) ∈ GT := mT 197 (by decide +kernel) rfl
theorem wt_198 : (Jvm.Cond.fieldLink "AsleepPass$Crossing" (15 : Nat) "AsleepPass$Crossing" "depthNow" "I") ∈ GT := mT 198 (by decide +kernel) rfl
theorem wn_199 : (Jvm.Cond.fieldLinkNest "AsleepPass" (237 : Nat) "AsleepPass$Crossing" "depthNow" "I" "AsleepPass") ∈ NT := mN 199 (by decide +kernel) rfl
theorem wt_200 : (Jvm.Cond.fieldLink "AsleepPass$Crossing" (20 : Nat) "AsleepPass$Crossing" "falls" "I") ∈ GT := mT 200 (by decide +kernel) rfl
theorem wn_201 : (Jvm.Cond.fieldLinkNest "AsleepPass" (240 : Nat) "AsleepPass$Crossing" "falls" "I" "AsleepPass") ∈ NT := mN 201 (by decide +kernel) rfl
theorem wt_202 : (Jvm.Cond.fieldLink "AsleepPass$Crossing" (23 : Nat) "AsleepPass$Crossing" "wokeOn" "I") ∈ GT := mT 202 (by decide +kernel) rfl
theorem wn_203 : (Jvm.Cond.fieldLinkNest "AsleepPass" (243 : Nat) "AsleepPass$Crossing" "wokeOn" "I" "AsleepPass") ∈ NT := mN 203 (by decide +kernel) rfl
theorem wt_204 : (Jvm.Cond.lays "AsleepPass$Crossing" "AsleepPass$Crossing" "depthNow" "I") ∈ GT := mT 204 (by decide +kernel) rfl
theorem wt_206 : (Jvm.Cond.lays "AsleepPass$Crossing" "AsleepPass$Crossing" "falls" "I") ∈ GT := mT 206 (by decide +kernel) rfl
theorem wt_208 : (Jvm.Cond.lays "AsleepPass$Crossing" "AsleepPass$Crossing" "wokeOn" "I") ∈ GT := mT 208 (by decide +kernel) rfl
theorem wt_211 : (Jvm.Cond.classLink "AsleepPass" (55 : Nat) "AsleepPass$Learnt") ∈ GT := mT 211 (by decide +kernel) rfl
theorem wt_212 : (Jvm.Cond.instantiable "AsleepPass$Learnt" (5 : Nat)) ∈ GT := mT 212 (by decide +kernel) rfl
theorem wn_213 : (Jvm.Cond.methodLinkNest "AsleepPass" (57 : Nat) ({ cls := "AsleepPass$Learnt", name := "<init>", desc := "()V" } : Jvm.MethodName) "AsleepPass") ∈ NT := mN 213 (by decide +kernel) rfl
theorem wt_214 : (Jvm.Cond.instanceMethod ({ cls := "AsleepPass$Learnt", name := "<init>", desc := "()V" } : Jvm.MethodName)) ∈ GT := mT 214 (by decide +kernel) rfl
theorem wt_215 : (Jvm.Cond.code ({ cls := "AsleepPass$Learnt", name := "<init>", desc := "()V" } : Jvm.MethodName) prog_4_method_1_code (1 : Nat) (Option.none : Option Jvm.ClassFile.FieldType)) ∈ GT := mT 215 (by decide +kernel) rfl
theorem wt_216 : (Jvm.Cond.methodLink "AsleepPass$Learnt" (1 : Nat) ({ cls := "java/lang/Object", name := "<init>", desc := "()V" } : Jvm.MethodName)) ∈ GT := mT 216 (by decide +kernel) rfl
theorem wt_217 : (Jvm.Cond.fieldLink "AsleepPass$Learnt" (22 : Nat) "AsleepPass$Learnt" "size" "I") ∈ GT := mT 217 (by decide +kernel) rfl
theorem wn_218 : (Jvm.Cond.fieldLinkNest "AsleepPass" (116 : Nat) "AsleepPass$Learnt" "size" "I" "AsleepPass") ∈ NT := mN 218 (by decide +kernel) rfl
theorem wt_219 : (Jvm.Cond.fieldLink "AsleepPass$Learnt" (9 : Nat) "AsleepPass$Learnt" "stretchOf" "[I") ∈ GT := mT 219 (by decide +kernel) rfl
theorem wt_220 : (Jvm.Cond.fieldLink "AsleepPass$Learnt" (13 : Nat) "AsleepPass$Learnt" "giverOf" "[I") ∈ GT := mT 220 (by decide +kernel) rfl
theorem wt_221 : (Jvm.Cond.fieldLink "AsleepPass$Learnt" (16 : Nat) "AsleepPass$Learnt" "takerOf" "[I") ∈ GT := mT 221 (by decide +kernel) rfl
theorem wt_222 : (Jvm.Cond.fieldLink "AsleepPass$Learnt" (19 : Nat) "AsleepPass$Learnt" "harmOf" "[I") ∈ GT := mT 222 (by decide +kernel) rfl
theorem wt_223 : (Jvm.Cond.lays "AsleepPass$Learnt" "AsleepPass$Learnt" "size" "I") ∈ GT := mT 223 (by decide +kernel) rfl
theorem wt_225 : (Jvm.Cond.laysFinal "AsleepPass$Learnt" "AsleepPass$Learnt" "stretchOf" "[I") ∈ GT := mT 225 (by decide +kernel) rfl
theorem wt_227 : (Jvm.Cond.laysFinal "AsleepPass$Learnt" "AsleepPass$Learnt" "giverOf" "[I") ∈ GT := mT 227 (by decide +kernel) rfl
theorem wt_229 : (Jvm.Cond.laysFinal "AsleepPass$Learnt" "AsleepPass$Learnt" "takerOf" "[I") ∈ GT := mT 229 (by decide +kernel) rfl
theorem wt_231 : (Jvm.Cond.laysFinal "AsleepPass$Learnt" "AsleepPass$Learnt" "harmOf" "[I") ∈ GT := mT 231 (by decide +kernel) rfl
theorem wt_234 : (Jvm.Cond.classLink "AsleepPass" (62 : Nat) "AsleepPass$Marked") ∈ GT := mT 234 (by decide +kernel) rfl
theorem wt_235 : (Jvm.Cond.instantiable "AsleepPass$Marked" (3 : Nat)) ∈ GT := mT 235 (by decide +kernel) rfl
theorem wn_236 : (Jvm.Cond.methodLinkNest "AsleepPass" (64 : Nat) ({ cls := "AsleepPass$Marked", name := "<init>", desc := "()V" } : Jvm.MethodName) "AsleepPass") ∈ NT := mN 236 (by decide +kernel) rfl
theorem wt_237 : (Jvm.Cond.instanceMethod ({ cls := "AsleepPass$Marked", name := "<init>", desc := "()V" } : Jvm.MethodName)) ∈ GT := mT 237 (by decide +kernel) rfl
theorem wt_238 : (Jvm.Cond.code ({ cls := "AsleepPass$Marked", name := "<init>", desc := "()V" } : Jvm.MethodName) prog_5_method_1_code (1 : Nat) (Option.none : Option Jvm.ClassFile.FieldType)) ∈ GT := mT 238 (by decide +kernel) rfl
theorem wt_239 : (Jvm.Cond.methodLink "AsleepPass$Marked" (1 : Nat) ({ cls := "java/lang/Object", name := "<init>", desc := "()V" } : Jvm.MethodName)) ∈ GT := mT 239 (by decide +kernel) rfl
theorem wt_240 : (Jvm.Cond.fieldLink "AsleepPass$Marked" (16 : Nat) "AsleepPass$Marked" "size" "I") ∈ GT := mT 240 (by decide +kernel) rfl
theorem wn_241 : (Jvm.Cond.fieldLinkNest "AsleepPass" (119 : Nat) "AsleepPass$Marked" "size" "I" "AsleepPass") ∈ NT := mN 241 (by decide +kernel) rfl
theorem wt_242 : (Jvm.Cond.fieldLink "AsleepPass$Marked" (9 : Nat) "AsleepPass$Marked" "stretchOf" "[I") ∈ GT := mT 242 (by decide +kernel) rfl
theorem wt_243 : (Jvm.Cond.fieldLink "AsleepPass$Marked" (13 : Nat) "AsleepPass$Marked" "depthOf" "[I") ∈ GT := mT 243 (by decide +kernel) rfl
theorem wt_244 : (Jvm.Cond.lays "AsleepPass$Marked" "AsleepPass$Marked" "size" "I") ∈ GT := mT 244 (by decide +kernel) rfl
theorem wt_246 : (Jvm.Cond.laysFinal "AsleepPass$Marked" "AsleepPass$Marked" "stretchOf" "[I") ∈ GT := mT 246 (by decide +kernel) rfl
theorem wt_248 : (Jvm.Cond.laysFinal "AsleepPass$Marked" "AsleepPass$Marked" "depthOf" "[I") ∈ GT := mT 248 (by decide +kernel) rfl
theorem wt_251 : (Jvm.Cond.classLink "AsleepPass" (69 : Nat) "AsleepPass$Trails") ∈ GT := mT 251 (by decide +kernel) rfl
theorem wt_252 : (Jvm.Cond.instantiable "AsleepPass$Trails" (3 : Nat)) ∈ GT := mT 252 (by decide +kernel) rfl
theorem wn_253 : (Jvm.Cond.methodLinkNest "AsleepPass" (71 : Nat) ({ cls := "AsleepPass$Trails", name := "<init>", desc := "()V" } : Jvm.MethodName) "AsleepPass") ∈ NT := mN 253 (by decide +kernel) rfl
theorem wt_254 : (Jvm.Cond.instanceMethod ({ cls := "AsleepPass$Trails", name := "<init>", desc := "()V" } : Jvm.MethodName)) ∈ GT := mT 254 (by decide +kernel) rfl
theorem wt_255 : (Jvm.Cond.code ({ cls := "AsleepPass$Trails", name := "<init>", desc := "()V" } : Jvm.MethodName) prog_10_method_1_code (1 : Nat) (Option.none : Option Jvm.ClassFile.FieldType)) ∈ GT := mT 255 (by decide +kernel) rfl
theorem wt_256 : (Jvm.Cond.methodLink "AsleepPass$Trails" (3 : Nat) ({ cls := "java/lang/Object", name := "<init>", desc := "()V" } : Jvm.MethodName)) ∈ GT := mT 256 (by decide +kernel) rfl
theorem wt_257 : (Jvm.Cond.classLink "AsleepPass$Trails" (9 : Nat) "[[I") ∈ GT := mT 257 (by decide +kernel) rfl
theorem wt_258 : (Jvm.Cond.fieldLink "AsleepPass$Trails" (43 : Nat) "AsleepPass$Trails" "total" "I") ∈ GT := mT 258 (by decide +kernel) rfl
theorem wn_259 : (Jvm.Cond.fieldLinkNest "AsleepPass" (261 : Nat) "AsleepPass$Trails" "total" "I" "AsleepPass") ∈ NT := mN 259 (by decide +kernel) rfl
theorem wt_260 : (Jvm.Cond.fieldLink "AsleepPass$Trails" (11 : Nat) "AsleepPass$Trails" "into" "[[I") ∈ GT := mT 260 (by decide +kernel) rfl
theorem wt_261 : (Jvm.Cond.fieldLink "AsleepPass$Trails" (16 : Nat) "AsleepPass$Trails" "onward" "[[I") ∈ GT := mT 261 (by decide +kernel) rfl
theorem wt_262 : (Jvm.Cond.lays "AsleepPass$Trails" "AsleepPass$Trails" "total" "I") ∈ GT := mT 262 (by decide +kernel) rfl
theorem wt_264 : (Jvm.Cond.laysFinal "AsleepPass$Trails" "AsleepPass$Trails" "into" "[[I") ∈ GT := mT 264 (by decide +kernel) rfl
theorem wt_266 : (Jvm.Cond.laysFinal "AsleepPass$Trails" "AsleepPass$Trails" "onward" "[[I") ∈ GT := mT 266 (by decide +kernel) rfl
theorem wt_269 : (Jvm.Cond.classLink "AsleepPass" (76 : Nat) "AsleepPass$Sheets") ∈ GT := mT 269 (by decide +kernel) rfl
theorem wt_270 : (Jvm.Cond.instantiable "AsleepPass$Sheets" (7 : Nat)) ∈ GT := mT 270 (by decide +kernel) rfl
theorem wn_271 : (Jvm.Cond.methodLinkNest "AsleepPass" (78 : Nat) ({ cls := "AsleepPass$Sheets", name := "<init>", desc := "()V" } : Jvm.MethodName) "AsleepPass") ∈ NT := mN 271 (by decide +kernel) rfl
theorem wt_272 : (Jvm.Cond.instanceMethod ({ cls := "AsleepPass$Sheets", name := "<init>", desc := "()V" } : Jvm.MethodName)) ∈ GT := mT 272 (by decide +kernel) rfl
theorem wt_273 : (Jvm.Cond.code ({ cls := "AsleepPass$Sheets", name := "<init>", desc := "()V" } : Jvm.MethodName) prog_8_method_1_code (1 : Nat) (Option.none : Option Jvm.ClassFile.FieldType)) ∈ GT := mT 273 (by decide +kernel) rfl
theorem wt_274 : (Jvm.Cond.methodLink "AsleepPass$Sheets" (3 : Nat) ({ cls := "java/lang/Object", name := "<init>", desc := "()V" } : Jvm.MethodName)) ∈ GT := mT 274 (by decide +kernel) rfl
theorem wt_275 : (Jvm.Cond.classLink "AsleepPass$Sheets" (18 : Nat) "[[I") ∈ GT := mT 275 (by decide +kernel) rfl
theorem wt_276 : (Jvm.Cond.fieldLink "AsleepPass$Sheets" (11 : Nat) "AsleepPass$Sheets" "lanes" "[I") ∈ GT := mT 276 (by decide +kernel) rfl
theorem wt_277 : (Jvm.Cond.fieldLink "AsleepPass$Sheets" (15 : Nat) "AsleepPass$Sheets" "sizes" "[I") ∈ GT := mT 277 (by decide +kernel) rfl
theorem wt_278 : (Jvm.Cond.fieldLink "AsleepPass$Sheets" (20 : Nat) "AsleepPass$Sheets" "cells" "[[I") ∈ GT := mT 278 (by decide +kernel) rfl
theorem wt_279 : (Jvm.Cond.fieldLink "AsleepPass$Sheets" (41 : Nat) "AsleepPass$Sheets" "found" "I") ∈ GT := mT 279 (by decide +kernel) rfl
theorem wn_280 : (Jvm.Cond.fieldLinkNest "AsleepPass" (307 : Nat) "AsleepPass$Sheets" "found" "I" "AsleepPass") ∈ NT := mN 280 (by decide +kernel) rfl
theorem wt_281 : (Jvm.Cond.fieldLink "AsleepPass$Sheets" (37 : Nat) "AsleepPass$Sheets" "pairs" "I") ∈ GT := mT 281 (by decide +kernel) rfl
theorem wn_282 : (Jvm.Cond.fieldLinkNest "AsleepPass" (298 : Nat) "AsleepPass$Sheets" "pairs" "I" "AsleepPass") ∈ NT := mN 282 (by decide +kernel) rfl
theorem wt_283 : (Jvm.Cond.fieldLink "AsleepPass$Sheets" (23 : Nat) "AsleepPass$Sheets" "firsts" "[I") ∈ GT := mT 283 (by decide +kernel) rfl
theorem wn_284 : (Jvm.Cond.fieldLinkNest "AsleepPass" (301 : Nat) "AsleepPass$Sheets" "firsts" "[I" "AsleepPass") ∈ NT := mN 284 (by decide +kernel) rfl
theorem wt_285 : (Jvm.Cond.fieldLink "AsleepPass$Sheets" (26 : Nat) "AsleepPass$Sheets" "seconds" "[I") ∈ GT := mT 285 (by decide +kernel) rfl
theorem wn_286 : (Jvm.Cond.fieldLinkNest "AsleepPass" (304 : Nat) "AsleepPass$Sheets" "seconds" "[I" "AsleepPass") ∈ NT := mN 286 (by decide +kernel) rfl
theorem wt_287 : (Jvm.Cond.laysFinal "AsleepPass$Sheets" "AsleepPass$Sheets" "lanes" "[I") ∈ GT := mT 287 (by decide +kernel) rfl
theorem wt_289 : (Jvm.Cond.laysFinal "AsleepPass$Sheets" "AsleepPass$Sheets" "sizes" "[I") ∈ GT := mT 289 (by decide +kernel) rfl
theorem wt_291 : (Jvm.Cond.laysFinal "AsleepPass$Sheets" "AsleepPass$Sheets" "cells" "[[I") ∈ GT := mT 291 (by decide +kernel) rfl
theorem wt_293 : (Jvm.Cond.lays "AsleepPass$Sheets" "AsleepPass$Sheets" "found" "I") ∈ GT := mT 293 (by decide +kernel) rfl
theorem wt_295 : (Jvm.Cond.lays "AsleepPass$Sheets" "AsleepPass$Sheets" "pairs" "I") ∈ GT := mT 295 (by decide +kernel) rfl
theorem wt_297 : (Jvm.Cond.laysFinal "AsleepPass$Sheets" "AsleepPass$Sheets" "firsts" "[I") ∈ GT := mT 297 (by decide +kernel) rfl
theorem wt_299 : (Jvm.Cond.laysFinal "AsleepPass$Sheets" "AsleepPass$Sheets" "seconds" "[I") ∈ GT := mT 299 (by decide +kernel) rfl
theorem wt_302 : (Jvm.Cond.fieldLink "AsleepPass" (10 : Nat) "AsleepPass" "reader" "LAsleepPass$Reader;") ∈ GT := mT 302 (by decide +kernel) rfl
theorem wt_303 : (Jvm.Cond.fieldLink "AsleepPass" (19 : Nat) "AsleepPass" "way" "LAsleepPass$Way;") ∈ GT := mT 303 (by decide +kernel) rfl
theorem wt_304 : (Jvm.Cond.fieldLink "AsleepPass" (23 : Nat) "AsleepPass" "trial" "LAsleepPass$Way;") ∈ GT := mT 304 (by decide +kernel) rfl
theorem wt_305 : (Jvm.Cond.fieldLink "AsleepPass" (26 : Nat) "AsleepPass" "images" "[LAsleepPass$Way;") ∈ GT := mT 305 (by decide +kernel) rfl
theorem wt_306 : (Jvm.Cond.fieldLink "AsleepPass" (30 : Nat) "AsleepPass" "kept" "[Z") ∈ GT := mT 306 (by decide +kernel) rfl
theorem wt_307 : (Jvm.Cond.fieldLink "AsleepPass" (37 : Nat) "AsleepPass" "odds" "LAsleepPass$Odds;") ∈ GT := mT 307 (by decide +kernel) rfl
theorem wt_308 : (Jvm.Cond.fieldLink "AsleepPass" (44 : Nat) "AsleepPass" "choice" "LAsleepPass$Choice;") ∈ GT := mT 308 (by decide +kernel) rfl
theorem wt_309 : (Jvm.Cond.fieldLink "AsleepPass" (51 : Nat) "AsleepPass" "crossing" "LAsleepPass$Crossing;") ∈ GT := mT 309 (by decide +kernel) rfl
theorem wt_310 : (Jvm.Cond.fieldLink "AsleepPass" (58 : Nat) "AsleepPass" "learnt" "LAsleepPass$Learnt;") ∈ GT := mT 310 (by decide +kernel) rfl
theorem wt_311 : (Jvm.Cond.fieldLink "AsleepPass" (65 : Nat) "AsleepPass" "marked" "LAsleepPass$Marked;") ∈ GT := mT 311 (by decide +kernel) rfl
theorem wt_312 : (Jvm.Cond.fieldLink "AsleepPass" (72 : Nat) "AsleepPass" "trails" "LAsleepPass$Trails;") ∈ GT := mT 312 (by decide +kernel) rfl
theorem wt_313 : (Jvm.Cond.fieldLink "AsleepPass" (79 : Nat) "AsleepPass" "sheets" "LAsleepPass$Sheets;") ∈ GT := mT 313 (by decide +kernel) rfl
theorem wt_314 : (Jvm.Cond.fieldLink "AsleepPass" (103 : Nat) "AsleepPass" "textFault" "I") ∈ GT := mT 314 (by decide +kernel) rfl
theorem wt_315 : (Jvm.Cond.fieldLink "AsleepPass" (308 : Nat) "AsleepPass" "readFault" "I") ∈ GT := mT 315 (by decide +kernel) rfl
theorem wt_316 : (Jvm.Cond.laysFinal "AsleepPass" "AsleepPass" "reader" "LAsleepPass$Reader;") ∈ GT := mT 316 (by decide +kernel) rfl
theorem wt_318 : (Jvm.Cond.laysFinal "AsleepPass" "AsleepPass" "way" "LAsleepPass$Way;") ∈ GT := mT 318 (by decide +kernel) rfl
theorem wt_320 : (Jvm.Cond.laysFinal "AsleepPass" "AsleepPass" "trial" "LAsleepPass$Way;") ∈ GT := mT 320 (by decide +kernel) rfl
theorem wt_322 : (Jvm.Cond.laysFinal "AsleepPass" "AsleepPass" "images" "[LAsleepPass$Way;") ∈ GT := mT 322 (by decide +kernel) rfl
theorem wt_324 : (Jvm.Cond.laysFinal "AsleepPass" "AsleepPass" "kept" "[Z") ∈ GT := mT 324 (by decide +kernel) rfl
theorem wt_326 : (Jvm.Cond.laysFinal "AsleepPass" "AsleepPass" "odds" "LAsleepPass$Odds;") ∈ GT := mT 326 (by decide +kernel) rfl
theorem wt_328 : (Jvm.Cond.laysFinal "AsleepPass" "AsleepPass" "choice" "LAsleepPass$Choice;") ∈ GT := mT 328 (by decide +kernel) rfl
theorem wt_330 : (Jvm.Cond.laysFinal "AsleepPass" "AsleepPass" "crossing" "LAsleepPass$Crossing;") ∈ GT := mT 330 (by decide +kernel) rfl
theorem wt_332 : (Jvm.Cond.laysFinal "AsleepPass" "AsleepPass" "learnt" "LAsleepPass$Learnt;") ∈ GT := mT 332 (by decide +kernel) rfl
theorem wt_334 : (Jvm.Cond.laysFinal "AsleepPass" "AsleepPass" "marked" "LAsleepPass$Marked;") ∈ GT := mT 334 (by decide +kernel) rfl
theorem wt_336 : (Jvm.Cond.laysFinal "AsleepPass" "AsleepPass" "trails" "LAsleepPass$Trails;") ∈ GT := mT 336 (by decide +kernel) rfl
theorem wt_338 : (Jvm.Cond.laysFinal "AsleepPass" "AsleepPass" "sheets" "LAsleepPass$Sheets;") ∈ GT := mT 338 (by decide +kernel) rfl
theorem wt_340 : (Jvm.Cond.lays "AsleepPass" "AsleepPass" "textFault" "I") ∈ GT := mT 340 (by decide +kernel) rfl
theorem wt_342 : (Jvm.Cond.lays "AsleepPass" "AsleepPass" "readFault" "I") ∈ GT := mT 342 (by decide +kernel) rfl
theorem wt_345 : (Jvm.Cond.methodLink "AsleepPassLaw" (15 : Nat) ({ cls := "AsleepPass", name := "feed", desc := "(J)I" } : Jvm.MethodName)) ∈ GT := mT 345 (by decide +kernel) rfl
theorem wt_346 : (Jvm.Cond.instanceMethod ({ cls := "AsleepPass", name := "feed", desc := "(J)I" } : Jvm.MethodName)) ∈ GT := mT 346 (by decide +kernel) rfl
theorem wt_347 : (Jvm.Cond.selects "AsleepPass" ({ cls := "AsleepPass", name := "feed", desc := "(J)I" } : Jvm.MethodName) ({ cls := "AsleepPass", name := "feed", desc := "(J)I" } : Jvm.MethodName)) ∈ GT := mT 347 (by decide +kernel) rfl
theorem wt_348 : (Jvm.Cond.code ({ cls := "AsleepPass", name := "feed", desc := "(J)I" } : Jvm.MethodName) prog_1_method_2_code (3 : Nat) (Option.some Jvm.ClassFile.FieldType.int)) ∈ GT := mT 348 (by decide +kernel) rfl
theorem wn_349 : (Jvm.Cond.methodLinkNest "AsleepPass" (87 : Nat) ({ cls := "AsleepPass$Tape", name := "addBytes", desc := "(J)Z" } : Jvm.MethodName) "AsleepPass") ∈ NT := mN 349 (by decide +kernel) rfl
theorem wt_351 : (Jvm.Cond.instanceMethod ({ cls := "AsleepPass$Tape", name := "addBytes", desc := "(J)Z" } : Jvm.MethodName)) ∈ GT := mT 351 (by decide +kernel) rfl
theorem wt_352 : (Jvm.Cond.code ({ cls := "AsleepPass$Tape", name := "addBytes", desc := "(J)Z" } : Jvm.MethodName) prog_9_method_2_code (4 : Nat) (Option.some Jvm.ClassFile.FieldType.boolean)) ∈ GT := mT 352 (by decide +kernel) rfl
theorem wt_353 : (Jvm.Cond.constantLong "AsleepPass$Tape" (17 : Nat) (255 : Int64)) ∈ GT := mT 353 (by decide +kernel) rfl
theorem wt_354 : (Jvm.Cond.methodLink "AsleepPassLaw" (20 : Nat) ({ cls := "AsleepPass", name := "end", desc := "(I)I" } : Jvm.MethodName)) ∈ GT := mT 354 (by decide +kernel) rfl
theorem wt_355 : (Jvm.Cond.instanceMethod ({ cls := "AsleepPass", name := "end", desc := "(I)I" } : Jvm.MethodName)) ∈ GT := mT 355 (by decide +kernel) rfl
theorem wt_356 : (Jvm.Cond.selects "AsleepPass" ({ cls := "AsleepPass", name := "end", desc := "(I)I" } : Jvm.MethodName) ({ cls := "AsleepPass", name := "end", desc := "(I)I" } : Jvm.MethodName)) ∈ GT := mT 356 (by decide +kernel) rfl
theorem wt_357 : (Jvm.Cond.code ({ cls := "AsleepPass", name := "end", desc := "(I)I" } : Jvm.MethodName) prog_1_method_3_code (3 : Nat) (Option.some Jvm.ClassFile.FieldType.int)) ∈ GT := mT 357 (by decide +kernel) rfl
theorem wt_358 : (Jvm.Cond.methodLink "AsleepPassLaw" (25 : Nat) ({ cls := "AsleepPass", name := "text", desc := "()I" } : Jvm.MethodName)) ∈ GT := mT 358 (by decide +kernel) rfl
theorem wt_359 : (Jvm.Cond.instanceMethod ({ cls := "AsleepPass", name := "text", desc := "()I" } : Jvm.MethodName)) ∈ GT := mT 359 (by decide +kernel) rfl
theorem wt_360 : (Jvm.Cond.selects "AsleepPass" ({ cls := "AsleepPass", name := "text", desc := "()I" } : Jvm.MethodName) ({ cls := "AsleepPass", name := "text", desc := "()I" } : Jvm.MethodName)) ∈ GT := mT 360 (by decide +kernel) rfl
theorem wt_361 : (Jvm.Cond.code ({ cls := "AsleepPass", name := "text", desc := "()I" } : Jvm.MethodName) prog_1_method_4_code (2 : Nat) (Option.some Jvm.ClassFile.FieldType.int)) ∈ GT := mT 361 (by decide +kernel) rfl
theorem wn_362 : (Jvm.Cond.methodLinkNest "AsleepPass" (97 : Nat) ({ cls := "AsleepPass$Reader", name := "readAll", desc := "()V" } : Jvm.MethodName) "AsleepPass") ∈ NT := mN 362 (by decide +kernel) rfl
theorem wt_364 : (Jvm.Cond.instanceMethod ({ cls := "AsleepPass$Reader", name := "readAll", desc := "()V" } : Jvm.MethodName)) ∈ GT := mT 364 (by decide +kernel) rfl
theorem wt_365 : (Jvm.Cond.code ({ cls := "AsleepPass$Reader", name := "readAll", desc := "()V" } : Jvm.MethodName) prog_7_method_2_code (2 : Nat) (Option.none : Option Jvm.ClassFile.FieldType)) ∈ GT := mT 365 (by decide +kernel) rfl
theorem wt_366 : (Jvm.Cond.methodLink "AsleepPass$Reader" (25 : Nat) ({ cls := "AsleepPass$Reader", name := "begin", desc := "()V" } : Jvm.MethodName)) ∈ GT := mT 366 (by decide +kernel) rfl
theorem wt_368 : (Jvm.Cond.instanceMethod ({ cls := "AsleepPass$Reader", name := "begin", desc := "()V" } : Jvm.MethodName)) ∈ GT := mT 368 (by decide +kernel) rfl
theorem wt_369 : (Jvm.Cond.code ({ cls := "AsleepPass$Reader", name := "begin", desc := "()V" } : Jvm.MethodName) prog_7_method_3_code (1 : Nat) (Option.none : Option Jvm.ClassFile.FieldType)) ∈ GT := mT 369 (by decide +kernel) rfl
theorem wn_370 : (Jvm.Cond.methodLinkNest "AsleepPass$Reader" (51 : Nat) ({ cls := "AsleepPass$Way", name := "clear", desc := "()V" } : Jvm.MethodName) "AsleepPass") ∈ NT := mN 370 (by decide +kernel) rfl
theorem wt_372 : (Jvm.Cond.instanceMethod ({ cls := "AsleepPass$Way", name := "clear", desc := "()V" } : Jvm.MethodName)) ∈ GT := mT 372 (by decide +kernel) rfl
theorem wt_373 : (Jvm.Cond.code ({ cls := "AsleepPass$Way", name := "clear", desc := "()V" } : Jvm.MethodName) prog_11_method_2_code (2 : Nat) (Option.none : Option Jvm.ClassFile.FieldType)) ∈ GT := mT 373 (by decide +kernel) rfl
theorem wt_374 : (Jvm.Cond.methodLink "AsleepPass$Reader" (28 : Nat) ({ cls := "AsleepPass$Reader", name := "nextToken", desc := "()Z" } : Jvm.MethodName)) ∈ GT := mT 374 (by decide +kernel) rfl
theorem wt_376 : (Jvm.Cond.instanceMethod ({ cls := "AsleepPass$Reader", name := "nextToken", desc := "()Z" } : Jvm.MethodName)) ∈ GT := mT 376 (by decide +kernel) rfl
theorem wt_377 : (Jvm.Cond.code ({ cls := "AsleepPass$Reader", name := "nextToken", desc := "()Z" } : Jvm.MethodName) prog_7_method_5_code (2 : Nat) (Option.some Jvm.ClassFile.FieldType.boolean)) ∈ GT := mT 377 (by decide +kernel) rfl
theorem wn_378 : (Jvm.Cond.methodLinkNest "AsleepPass$Reader" (73 : Nat) ({ cls := "AsleepPass$Tape", name := "pastAll", desc := "(ICC)I" } : Jvm.MethodName) "AsleepPass") ∈ NT := mN 378 (by decide +kernel) rfl
theorem wt_380 : (Jvm.Cond.instanceMethod ({ cls := "AsleepPass$Tape", name := "pastAll", desc := "(ICC)I" } : Jvm.MethodName)) ∈ GT := mT 380 (by decide +kernel) rfl
theorem wt_381 : (Jvm.Cond.code ({ cls := "AsleepPass$Tape", name := "pastAll", desc := "(ICC)I" } : Jvm.MethodName) prog_9_method_5_code (5 : Nat) (Option.some Jvm.ClassFile.FieldType.int)) ∈ GT := mT 381 (by decide +kernel) rfl
theorem wn_382 : (Jvm.Cond.methodLinkNest "AsleepPass$Reader" (80 : Nat) ({ cls := "AsleepPass$Tape", name := "byteAt", desc := "(I)I" } : Jvm.MethodName) "AsleepPass") ∈ NT := mN 382 (by decide +kernel) rfl
theorem wt_384 : (Jvm.Cond.instanceMethod ({ cls := "AsleepPass$Tape", name := "byteAt", desc := "(I)I" } : Jvm.MethodName)) ∈ GT := mT 384 (by decide +kernel) rfl
theorem wt_385 : (Jvm.Cond.code ({ cls := "AsleepPass$Tape", name := "byteAt", desc := "(I)I" } : Jvm.MethodName) prog_9_method_3_code (2 : Nat) (Option.some Jvm.ClassFile.FieldType.int)) ∈ GT := mT 385 (by decide +kernel) rfl
theorem wt_386 : (Jvm.Cond.methodLink "AsleepPass$Reader" (84 : Nat) ({ cls := "AsleepPass$Reader", name := "refuse", desc := "(II)Z" } : Jvm.MethodName)) ∈ GT := mT 386 (by decide +kernel) rfl
theorem wt_388 : (Jvm.Cond.instanceMethod ({ cls := "AsleepPass$Reader", name := "refuse", desc := "(II)Z" } : Jvm.MethodName)) ∈ GT := mT 388 (by decide +kernel) rfl
theorem wt_389 : (Jvm.Cond.code ({ cls := "AsleepPass$Reader", name := "refuse", desc := "(II)Z" } : Jvm.MethodName) prog_7_method_4_code (3 : Nat) (Option.some Jvm.ClassFile.FieldType.boolean)) ∈ GT := mT 389 (by decide +kernel) rfl
theorem wt_390 : (Jvm.Cond.methodLink "AsleepPass$Reader" (42 : Nat) ({ cls := "AsleepPass$Reader", name := "readLine", desc := "()Z" } : Jvm.MethodName)) ∈ GT := mT 390 (by decide +kernel) rfl
theorem wt_392 : (Jvm.Cond.instanceMethod ({ cls := "AsleepPass$Reader", name := "readLine", desc := "()Z" } : Jvm.MethodName)) ∈ GT := mT 392 (by decide +kernel) rfl
theorem wt_393 : (Jvm.Cond.code ({ cls := "AsleepPass$Reader", name := "readLine", desc := "()Z" } : Jvm.MethodName) prog_7_method_7_code (1 : Nat) (Option.some Jvm.ClassFile.FieldType.boolean)) ∈ GT := mT 393 (by decide +kernel) rfl
theorem wt_395 : (Jvm.Cond.methodLink "AsleepPass$Reader" (94 : Nat) ({ cls := "AsleepPass$Reader", name := "isName", desc := "(Ljava/lang/String;)Z" } : Jvm.MethodName)) ∈ GT := mT 395 (by decide +kernel) rfl
theorem wt_397 : (Jvm.Cond.instanceMethod ({ cls := "AsleepPass$Reader", name := "isName", desc := "(Ljava/lang/String;)Z" } : Jvm.MethodName)) ∈ GT := mT 397 (by decide +kernel) rfl
theorem wt_398 : (Jvm.Cond.code ({ cls := "AsleepPass$Reader", name := "isName", desc := "(Ljava/lang/String;)Z" } : Jvm.MethodName) prog_7_method_6_code (2 : Nat) (Option.some Jvm.ClassFile.FieldType.boolean)) ∈ GT := mT 398 (by decide +kernel) rfl
theorem wn_399 : (Jvm.Cond.methodLinkNest "AsleepPass$Reader" (88 : Nat) ({ cls := "AsleepPass$Tape", name := "says", desc := "(IILjava/lang/String;)Z" } : Jvm.MethodName) "AsleepPass") ∈ NT := mN 399 (by decide +kernel) rfl
theorem wt_401 : (Jvm.Cond.instanceMethod ({ cls := "AsleepPass$Tape", name := "says", desc := "(IILjava/lang/String;)Z" } : Jvm.MethodName)) ∈ GT := mT 401 (by decide +kernel) rfl
theorem wt_402 : (Jvm.Cond.code ({ cls := "AsleepPass$Tape", name := "says", desc := "(IILjava/lang/String;)Z" } : Jvm.MethodName) prog_9_method_4_code (5 : Nat) (Option.some Jvm.ClassFile.FieldType.boolean)) ∈ GT := mT 402 (by decide +kernel) rfl
theorem wt_403 : (Jvm.Cond.methodLink "AsleepPass$Tape" (19 : Nat) ({ cls := "java/lang/String", name := "length", desc := "()I" } : Jvm.MethodName)) ∈ GT := mT 403 (by decide +kernel) rfl
theorem wt_404 : (Jvm.Cond.instanceMethod ({ cls := "java/lang/String", name := "length", desc := "()I" } : Jvm.MethodName)) ∈ GT := mT 404 (by decide +kernel) rfl
theorem wt_405 : (Jvm.Cond.selects "java/lang/String" ({ cls := "java/lang/String", name := "length", desc := "()I" } : Jvm.MethodName) ({ cls := "java/lang/String", name := "length", desc := "()I" } : Jvm.MethodName)) ∈ GT := mT 405 (by decide +kernel) rfl
theorem wt_406 : (Jvm.Cond.code ({ cls := "java/lang/String", name := "length", desc := "()I" } : Jvm.MethodName) prog_16_method_54_code (1 : Nat) (Option.some Jvm.ClassFile.FieldType.int)) ∈ GT := mT 406 (by decide +kernel) rfl
theorem wt_407 : (Jvm.Cond.methodLink "java/lang/String" (335 : Nat) ({ cls := "java/lang/String", name := "coder", desc := "()B" } : Jvm.MethodName)) ∈ GT := mT 407 (by decide +kernel) rfl
theorem wt_408 : (Jvm.Cond.instanceMethod ({ cls := "java/lang/String", name := "coder", desc := "()B" } : Jvm.MethodName)) ∈ GT := mT 408 (by decide +kernel) rfl
theorem wt_409 : (Jvm.Cond.selects "java/lang/String" ({ cls := "java/lang/String", name := "coder", desc := "()B" } : Jvm.MethodName) ({ cls := "java/lang/String", name := "coder", desc := "()B" } : Jvm.MethodName)) ∈ GT := mT 409 (by decide +kernel) rfl
theorem wt_410 : (Jvm.Cond.code ({ cls := "java/lang/String", name := "coder", desc := "()B" } : Jvm.MethodName) prog_16_method_152_code (1 : Nat) (Option.some Jvm.ClassFile.FieldType.byte)) ∈ GT := mT 410 (by decide +kernel) rfl
theorem wt_411 : (Jvm.Cond.fieldLink "java/lang/String" (38 : Nat) "java/lang/String" "COMPACT_STRINGS" "Z") ∈ GT := mT 411 (by decide +kernel) rfl
theorem wt_413 : (Jvm.Cond.methodLink "AsleepPass$Tape" (24 : Nat) ({ cls := "java/lang/String", name := "charAt", desc := "(I)C" } : Jvm.MethodName)) ∈ GT := mT 413 (by decide +kernel) rfl
theorem wt_414 : (Jvm.Cond.instanceMethod ({ cls := "java/lang/String", name := "charAt", desc := "(I)C" } : Jvm.MethodName)) ∈ GT := mT 414 (by decide +kernel) rfl
theorem wt_415 : (Jvm.Cond.selects "java/lang/String" ({ cls := "java/lang/String", name := "charAt", desc := "(I)C" } : Jvm.MethodName) ({ cls := "java/lang/String", name := "charAt", desc := "(I)C" } : Jvm.MethodName)) ∈ GT := mT 415 (by decide +kernel) rfl
theorem wt_416 : (Jvm.Cond.code ({ cls := "java/lang/String", name := "charAt", desc := "(I)C" } : Jvm.MethodName) prog_16_method_56_code (2 : Nat) (Option.some Jvm.ClassFile.FieldType.char)) ∈ GT := mT 416 (by decide +kernel) rfl
theorem wt_417 : (Jvm.Cond.methodLink "java/lang/String" (492 : Nat) ({ cls := "java/lang/String", name := "isLatin1", desc := "()Z" } : Jvm.MethodName)) ∈ GT := mT 417 (by decide +kernel) rfl
theorem wt_418 : (Jvm.Cond.instanceMethod ({ cls := "java/lang/String", name := "isLatin1", desc := "()Z" } : Jvm.MethodName)) ∈ GT := mT 418 (by decide +kernel) rfl
theorem wt_419 : (Jvm.Cond.selects "java/lang/String" ({ cls := "java/lang/String", name := "isLatin1", desc := "()Z" } : Jvm.MethodName) ({ cls := "java/lang/String", name := "isLatin1", desc := "()Z" } : Jvm.MethodName)) ∈ GT := mT 419 (by decide +kernel) rfl
theorem wt_420 : (Jvm.Cond.code ({ cls := "java/lang/String", name := "isLatin1", desc := "()Z" } : Jvm.MethodName) prog_16_method_154_code (1 : Nat) (Option.some Jvm.ClassFile.FieldType.boolean)) ∈ GT := mT 420 (by decide +kernel) rfl
theorem wt_421 : (Jvm.Cond.methodLink "java/lang/String" (495 : Nat) ({ cls := "java/lang/StringLatin1", name := "charAt", desc := "([BI)C" } : Jvm.MethodName)) ∈ GT := mT 421 (by decide +kernel) rfl
theorem wt_422 : (Jvm.Cond.static ({ cls := "java/lang/StringLatin1", name := "charAt", desc := "([BI)C" } : Jvm.MethodName)) ∈ GT := mT 422 (by decide +kernel) rfl
theorem wt_423 : (Jvm.Cond.code ({ cls := "java/lang/StringLatin1", name := "charAt", desc := "([BI)C" } : Jvm.MethodName) prog_17_method_2_code (2 : Nat) (Option.some Jvm.ClassFile.FieldType.char)) ∈ GT := mT 423 (by decide +kernel) rfl
theorem wt_424 : (Jvm.Cond.methodLink "java/lang/StringLatin1" (9 : Nat) ({ cls := "java/lang/String", name := "checkIndex", desc := "(II)V" } : Jvm.MethodName)) ∈ GT := mT 424 (by decide +kernel) rfl
theorem wt_425 : (Jvm.Cond.static ({ cls := "java/lang/String", name := "checkIndex", desc := "(II)V" } : Jvm.MethodName)) ∈ GT := mT 425 (by decide +kernel) rfl
theorem wt_426 : (Jvm.Cond.code ({ cls := "java/lang/String", name := "checkIndex", desc := "(II)V" } : Jvm.MethodName) prog_16_method_155_code (2 : Nat) (Option.none : Option Jvm.ClassFile.FieldType)) ∈ GT := mT 426 (by decide +kernel) rfl
theorem wt_427 : (Jvm.Cond.fieldLink "java/lang/String" (1053 : Nat) "jdk/internal/util/Preconditions" "SIOOBE_FORMATTER" "Ljava/util/function/BiFunction;") ∈ GT := mT 427 (by decide +kernel) rfl
theorem wt_429 : (Jvm.Cond.methodLink "java/lang/String" (1059 : Nat) ({ cls := "jdk/internal/util/Preconditions", name := "checkIndex", desc := "(IILjava/util/function/BiFunction;)I" } : Jvm.MethodName)) ∈ GT := mT 429 (by decide +kernel) rfl
theorem wt_430 : (Jvm.Cond.static ({ cls := "jdk/internal/util/Preconditions", name := "checkIndex", desc := "(IILjava/util/function/BiFunction;)I" } : Jvm.MethodName)) ∈ GT := mT 430 (by decide +kernel) rfl
theorem wt_431 : (Jvm.Cond.code ({ cls := "jdk/internal/util/Preconditions", name := "checkIndex", desc := "(IILjava/util/function/BiFunction;)I" } : Jvm.MethodName) prog_20_method_11_code (3 : Nat) (Option.some Jvm.ClassFile.FieldType.int)) ∈ GT := mT 431 (by decide +kernel) rfl
theorem wt_451 : (Jvm.Cond.methodLink "AsleepPass$Reader" (98 : Nat) ({ cls := "AsleepPass$Reader", name := "readStart", desc := "()Z" } : Jvm.MethodName)) ∈ GT := mT 451 (by decide +kernel) rfl
theorem wt_453 : (Jvm.Cond.instanceMethod ({ cls := "AsleepPass$Reader", name := "readStart", desc := "()Z" } : Jvm.MethodName)) ∈ GT := mT 453 (by decide +kernel) rfl
theorem wt_454 : (Jvm.Cond.code ({ cls := "AsleepPass$Reader", name := "readStart", desc := "()Z" } : Jvm.MethodName) prog_7_method_8_code (1 : Nat) (Option.some Jvm.ClassFile.FieldType.boolean)) ∈ GT := mT 454 (by decide +kernel) rfl
theorem wt_455 : (Jvm.Cond.methodLink "AsleepPass$Reader" (116 : Nat) ({ cls := "AsleepPass$Reader", name := "nextNumber", desc := "(II)Z" } : Jvm.MethodName)) ∈ GT := mT 455 (by decide +kernel) rfl
theorem wt_457 : (Jvm.Cond.instanceMethod ({ cls := "AsleepPass$Reader", name := "nextNumber", desc := "(II)Z" } : Jvm.MethodName)) ∈ GT := mT 457 (by decide +kernel) rfl
theorem wt_458 : (Jvm.Cond.code ({ cls := "AsleepPass$Reader", name := "nextNumber", desc := "(II)Z" } : Jvm.MethodName) prog_7_method_13_code (4 : Nat) (Option.some Jvm.ClassFile.FieldType.boolean)) ∈ GT := mT 458 (by decide +kernel) rfl
theorem wt_459 : (Jvm.Cond.methodLink "AsleepPass$Reader" (119 : Nat) ({ cls := "AsleepPass$Reader", name := "value", desc := "()I" } : Jvm.MethodName)) ∈ GT := mT 459 (by decide +kernel) rfl
theorem wt_461 : (Jvm.Cond.instanceMethod ({ cls := "AsleepPass$Reader", name := "value", desc := "()I" } : Jvm.MethodName)) ∈ GT := mT 461 (by decide +kernel) rfl
theorem wt_462 : (Jvm.Cond.code ({ cls := "AsleepPass$Reader", name := "value", desc := "()I" } : Jvm.MethodName) prog_7_method_15_code (3 : Nat) (Option.some Jvm.ClassFile.FieldType.int)) ∈ GT := mT 462 (by decide +kernel) rfl
theorem wt_463 : (Jvm.Cond.methodLink "AsleepPass$Reader" (126 : Nat) ({ cls := "AsleepPass$Reader", name := "nextStop", desc := "()Z" } : Jvm.MethodName)) ∈ GT := mT 463 (by decide +kernel) rfl
theorem wt_465 : (Jvm.Cond.instanceMethod ({ cls := "AsleepPass$Reader", name := "nextStop", desc := "()Z" } : Jvm.MethodName)) ∈ GT := mT 465 (by decide +kernel) rfl
theorem wt_466 : (Jvm.Cond.code ({ cls := "AsleepPass$Reader", name := "nextStop", desc := "()Z" } : Jvm.MethodName) prog_7_method_14_code (1 : Nat) (Option.some Jvm.ClassFile.FieldType.boolean)) ∈ GT := mT 466 (by decide +kernel) rfl
theorem wt_468 : (Jvm.Cond.methodLink "AsleepPass$Reader" (103 : Nat) ({ cls := "AsleepPass$Reader", name := "readStretch", desc := "()Z" } : Jvm.MethodName)) ∈ GT := mT 468 (by decide +kernel) rfl
theorem wt_470 : (Jvm.Cond.instanceMethod ({ cls := "AsleepPass$Reader", name := "readStretch", desc := "()Z" } : Jvm.MethodName)) ∈ GT := mT 470 (by decide +kernel) rfl
theorem wt_471 : (Jvm.Cond.code ({ cls := "AsleepPass$Reader", name := "readStretch", desc := "()Z" } : Jvm.MethodName) prog_7_method_9_code (2 : Nat) (Option.some Jvm.ClassFile.FieldType.boolean)) ∈ GT := mT 471 (by decide +kernel) rfl
theorem wn_472 : (Jvm.Cond.methodLinkNest "AsleepPass$Reader" (132 : Nat) ({ cls := "AsleepPass$Way", name := "addStretch", desc := "(II)V" } : Jvm.MethodName) "AsleepPass") ∈ NT := mN 472 (by decide +kernel) rfl
theorem wt_474 : (Jvm.Cond.instanceMethod ({ cls := "AsleepPass$Way", name := "addStretch", desc := "(II)V" } : Jvm.MethodName)) ∈ GT := mT 474 (by decide +kernel) rfl
theorem wt_475 : (Jvm.Cond.code ({ cls := "AsleepPass$Way", name := "addStretch", desc := "(II)V" } : Jvm.MethodName) prog_11_method_6_code (3 : Nat) (Option.none : Option Jvm.ClassFile.FieldType)) ∈ GT := mT 475 (by decide +kernel) rfl
theorem wt_477 : (Jvm.Cond.methodLink "AsleepPass$Reader" (108 : Nat) ({ cls := "AsleepPass$Reader", name := "readBearer", desc := "()Z" } : Jvm.MethodName)) ∈ GT := mT 477 (by decide +kernel) rfl
theorem wt_479 : (Jvm.Cond.instanceMethod ({ cls := "AsleepPass$Reader", name := "readBearer", desc := "()Z" } : Jvm.MethodName)) ∈ GT := mT 479 (by decide +kernel) rfl
theorem wt_480 : (Jvm.Cond.code ({ cls := "AsleepPass$Reader", name := "readBearer", desc := "()Z" } : Jvm.MethodName) prog_7_method_10_code (3 : Nat) (Option.some Jvm.ClassFile.FieldType.boolean)) ∈ GT := mT 480 (by decide +kernel) rfl
theorem wt_481 : (Jvm.Cond.methodLink "AsleepPass$Reader" (139 : Nat) ({ cls := "AsleepPass$Reader", name := "kind", desc := "()I" } : Jvm.MethodName)) ∈ GT := mT 481 (by decide +kernel) rfl
theorem wt_483 : (Jvm.Cond.instanceMethod ({ cls := "AsleepPass$Reader", name := "kind", desc := "()I" } : Jvm.MethodName)) ∈ GT := mT 483 (by decide +kernel) rfl
theorem wt_484 : (Jvm.Cond.code ({ cls := "AsleepPass$Reader", name := "kind", desc := "()I" } : Jvm.MethodName) prog_7_method_12_code (1 : Nat) (Option.some Jvm.ClassFile.FieldType.int)) ∈ GT := mT 484 (by decide +kernel) rfl
theorem wn_491 : (Jvm.Cond.methodLinkNest "AsleepPass$Reader" (142 : Nat) ({ cls := "AsleepPass$Way", name := "addBearer", desc := "(III)V" } : Jvm.MethodName) "AsleepPass") ∈ NT := mN 491 (by decide +kernel) rfl
theorem wt_493 : (Jvm.Cond.instanceMethod ({ cls := "AsleepPass$Way", name := "addBearer", desc := "(III)V" } : Jvm.MethodName)) ∈ GT := mT 493 (by decide +kernel) rfl
theorem wt_494 : (Jvm.Cond.code ({ cls := "AsleepPass$Way", name := "addBearer", desc := "(III)V" } : Jvm.MethodName) prog_11_method_7_code (4 : Nat) (Option.none : Option Jvm.ClassFile.FieldType)) ∈ GT := mT 494 (by decide +kernel) rfl
theorem wt_496 : (Jvm.Cond.methodLink "AsleepPass$Reader" (113 : Nat) ({ cls := "AsleepPass$Reader", name := "readCarry", desc := "()Z" } : Jvm.MethodName)) ∈ GT := mT 496 (by decide +kernel) rfl
theorem wt_498 : (Jvm.Cond.instanceMethod ({ cls := "AsleepPass$Reader", name := "readCarry", desc := "()Z" } : Jvm.MethodName)) ∈ GT := mT 498 (by decide +kernel) rfl
theorem wt_499 : (Jvm.Cond.code ({ cls := "AsleepPass$Reader", name := "readCarry", desc := "()Z" } : Jvm.MethodName) prog_7_method_11_code (3 : Nat) (Option.some Jvm.ClassFile.FieldType.boolean)) ∈ GT := mT 499 (by decide +kernel) rfl
theorem wt_500 : (Jvm.Cond.methodLink "AsleepPass$Reader" (150 : Nat) ({ cls := "java/lang/Math", name := "max", desc := "(II)I" } : Jvm.MethodName)) ∈ GT := mT 500 (by decide +kernel) rfl
theorem wt_501 : (Jvm.Cond.static ({ cls := "java/lang/Math", name := "max", desc := "(II)I" } : Jvm.MethodName)) ∈ GT := mT 501 (by decide +kernel) rfl
theorem wt_502 : (Jvm.Cond.code ({ cls := "java/lang/Math", name := "max", desc := "(II)I" } : Jvm.MethodName) prog_15_method_65_code (2 : Nat) (Option.some Jvm.ClassFile.FieldType.int)) ∈ GT := mT 502 (by decide +kernel) rfl
theorem wt_503 : (Jvm.Cond.methodLink "AsleepPass$Reader" (48 : Nat) ({ cls := "AsleepPass$Reader", name := "lookBehindAll", desc := "()V" } : Jvm.MethodName)) ∈ GT := mT 503 (by decide +kernel) rfl
theorem wt_505 : (Jvm.Cond.instanceMethod ({ cls := "AsleepPass$Reader", name := "lookBehindAll", desc := "()V" } : Jvm.MethodName)) ∈ GT := mT 505 (by decide +kernel) rfl
theorem wt_506 : (Jvm.Cond.code ({ cls := "AsleepPass$Reader", name := "lookBehindAll", desc := "()V" } : Jvm.MethodName) prog_7_method_16_code (1 : Nat) (Option.none : Option Jvm.ClassFile.FieldType)) ∈ GT := mT 506 (by decide +kernel) rfl
theorem wn_507 : (Jvm.Cond.methodLinkNest "AsleepPass" (112 : Nat) ({ cls := "AsleepPass$Way", name := "copyOf", desc := "(LAsleepPass$Way;)V" } : Jvm.MethodName) "AsleepPass") ∈ NT := mN 507 (by decide +kernel) rfl
theorem wt_509 : (Jvm.Cond.instanceMethod ({ cls := "AsleepPass$Way", name := "copyOf", desc := "(LAsleepPass$Way;)V" } : Jvm.MethodName)) ∈ GT := mT 509 (by decide +kernel) rfl
theorem wt_510 : (Jvm.Cond.code ({ cls := "AsleepPass$Way", name := "copyOf", desc := "(LAsleepPass$Way;)V" } : Jvm.MethodName) prog_11_method_3_code (2 : Nat) (Option.none : Option Jvm.ClassFile.FieldType)) ∈ GT := mT 510 (by decide +kernel) rfl
theorem wt_511 : (Jvm.Cond.methodLink "AsleepPass$Way" (40 : Nat) ({ cls := "java/lang/System", name := "arraycopy", desc := "(Ljava/lang/Object;ILjava/lang/Object;II)V" } : Jvm.MethodName)) ∈ GT := mT 511 (by decide +kernel) rfl
theorem wt_512 : (Jvm.Cond.static ({ cls := "java/lang/System", name := "arraycopy", desc := "(Ljava/lang/Object;ILjava/lang/Object;II)V" } : Jvm.MethodName)) ∈ GT := mT 512 (by decide +kernel) rfl
theorem wt_513 : (Jvm.Cond.native ({ cls := "java/lang/System", name := "arraycopy", desc := "(Ljava/lang/Object;ILjava/lang/Object;II)V" } : Jvm.MethodName)) ∈ GT := mT 513 (by decide +kernel) rfl
theorem wt_515 : (Jvm.Cond.methodLink "AsleepPassLaw" (30 : Nat) ({ cls := "AsleepPass", name := "fault", desc := "()I" } : Jvm.MethodName)) ∈ GT := mT 515 (by decide +kernel) rfl
theorem wt_516 : (Jvm.Cond.instanceMethod ({ cls := "AsleepPass", name := "fault", desc := "()I" } : Jvm.MethodName)) ∈ GT := mT 516 (by decide +kernel) rfl
theorem wt_517 : (Jvm.Cond.selects "AsleepPass" ({ cls := "AsleepPass", name := "fault", desc := "()I" } : Jvm.MethodName) ({ cls := "AsleepPass", name := "fault", desc := "()I" } : Jvm.MethodName)) ∈ GT := mT 517 (by decide +kernel) rfl
theorem wt_518 : (Jvm.Cond.code ({ cls := "AsleepPass", name := "fault", desc := "()I" } : Jvm.MethodName) prog_1_method_5_code (1 : Nat) (Option.some Jvm.ClassFile.FieldType.int)) ∈ GT := mT 518 (by decide +kernel) rfl
theorem wt_519 : (Jvm.Cond.methodLink "AsleepPassLaw" (34 : Nat) ({ cls := "AsleepPass", name := "rule", desc := "(I)I" } : Jvm.MethodName)) ∈ GT := mT 519 (by decide +kernel) rfl
theorem wt_520 : (Jvm.Cond.instanceMethod ({ cls := "AsleepPass", name := "rule", desc := "(I)I" } : Jvm.MethodName)) ∈ GT := mT 520 (by decide +kernel) rfl
theorem wt_521 : (Jvm.Cond.selects "AsleepPass" ({ cls := "AsleepPass", name := "rule", desc := "(I)I" } : Jvm.MethodName) ({ cls := "AsleepPass", name := "rule", desc := "(I)I" } : Jvm.MethodName)) ∈ GT := mT 521 (by decide +kernel) rfl
theorem wt_522 : (Jvm.Cond.code ({ cls := "AsleepPass", name := "rule", desc := "(I)I" } : Jvm.MethodName) prog_1_method_6_code (2 : Nat) (Option.some Jvm.ClassFile.FieldType.int)) ∈ GT := mT 522 (by decide +kernel) rfl
theorem wt_523 : (Jvm.Cond.methodLink "AsleepPassLaw" (38 : Nat) ({ cls := "AsleepPass", name := "stretch", desc := "(II)I" } : Jvm.MethodName)) ∈ GT := mT 523 (by decide +kernel) rfl
theorem wt_524 : (Jvm.Cond.instanceMethod ({ cls := "AsleepPass", name := "stretch", desc := "(II)I" } : Jvm.MethodName)) ∈ GT := mT 524 (by decide +kernel) rfl
theorem wt_525 : (Jvm.Cond.selects "AsleepPass" ({ cls := "AsleepPass", name := "stretch", desc := "(II)I" } : Jvm.MethodName) ({ cls := "AsleepPass", name := "stretch", desc := "(II)I" } : Jvm.MethodName)) ∈ GT := mT 525 (by decide +kernel) rfl
theorem wt_526 : (Jvm.Cond.code ({ cls := "AsleepPass", name := "stretch", desc := "(II)I" } : Jvm.MethodName) prog_1_method_7_code (3 : Nat) (Option.some Jvm.ClassFile.FieldType.int)) ∈ GT := mT 526 (by decide +kernel) rfl
theorem wn_527 : (Jvm.Cond.methodLinkNest "AsleepPass" (132 : Nat) ({ cls := "AsleepPass$Way", name := "hasStretch", desc := "(I)Z" } : Jvm.MethodName) "AsleepPass") ∈ NT := mN 527 (by decide +kernel) rfl
theorem wt_529 : (Jvm.Cond.instanceMethod ({ cls := "AsleepPass$Way", name := "hasStretch", desc := "(I)Z" } : Jvm.MethodName)) ∈ GT := mT 529 (by decide +kernel) rfl
theorem wt_530 : (Jvm.Cond.code ({ cls := "AsleepPass$Way", name := "hasStretch", desc := "(I)Z" } : Jvm.MethodName) prog_11_method_4_code (2 : Nat) (Option.some Jvm.ClassFile.FieldType.boolean)) ∈ GT := mT 530 (by decide +kernel) rfl
theorem wt_531 : (Jvm.Cond.methodLink "AsleepPassLaw" (43 : Nat) ({ cls := "AsleepPass", name := "bearer", desc := "(II)I" } : Jvm.MethodName)) ∈ GT := mT 531 (by decide +kernel) rfl
theorem wt_532 : (Jvm.Cond.instanceMethod ({ cls := "AsleepPass", name := "bearer", desc := "(II)I" } : Jvm.MethodName)) ∈ GT := mT 532 (by decide +kernel) rfl
theorem wt_533 : (Jvm.Cond.selects "AsleepPass" ({ cls := "AsleepPass", name := "bearer", desc := "(II)I" } : Jvm.MethodName) ({ cls := "AsleepPass", name := "bearer", desc := "(II)I" } : Jvm.MethodName)) ∈ GT := mT 533 (by decide +kernel) rfl
theorem wt_534 : (Jvm.Cond.code ({ cls := "AsleepPass", name := "bearer", desc := "(II)I" } : Jvm.MethodName) prog_1_method_8_code (3 : Nat) (Option.some Jvm.ClassFile.FieldType.int)) ∈ GT := mT 534 (by decide +kernel) rfl
theorem wn_535 : (Jvm.Cond.methodLinkNest "AsleepPass" (146 : Nat) ({ cls := "AsleepPass$Way", name := "hasBearer", desc := "(I)Z" } : Jvm.MethodName) "AsleepPass") ∈ NT := mN 535 (by decide +kernel) rfl
theorem wt_537 : (Jvm.Cond.instanceMethod ({ cls := "AsleepPass$Way", name := "hasBearer", desc := "(I)Z" } : Jvm.MethodName)) ∈ GT := mT 537 (by decide +kernel) rfl
theorem wt_538 : (Jvm.Cond.code ({ cls := "AsleepPass$Way", name := "hasBearer", desc := "(I)Z" } : Jvm.MethodName) prog_11_method_5_code (2 : Nat) (Option.some Jvm.ClassFile.FieldType.boolean)) ∈ GT := mT 538 (by decide +kernel) rfl
theorem wt_539 : (Jvm.Cond.methodLink "AsleepPassLaw" (47 : Nat) ({ cls := "AsleepPass", name := "start", desc := "(I)I" } : Jvm.MethodName)) ∈ GT := mT 539 (by decide +kernel) rfl
theorem wt_540 : (Jvm.Cond.instanceMethod ({ cls := "AsleepPass", name := "start", desc := "(I)I" } : Jvm.MethodName)) ∈ GT := mT 540 (by decide +kernel) rfl
theorem wt_541 : (Jvm.Cond.selects "AsleepPass" ({ cls := "AsleepPass", name := "start", desc := "(I)I" } : Jvm.MethodName) ({ cls := "AsleepPass", name := "start", desc := "(I)I" } : Jvm.MethodName)) ∈ GT := mT 541 (by decide +kernel) rfl
theorem wt_542 : (Jvm.Cond.code ({ cls := "AsleepPass", name := "start", desc := "(I)I" } : Jvm.MethodName) prog_1_method_9_code (3 : Nat) (Option.some Jvm.ClassFile.FieldType.int)) ∈ GT := mT 542 (by decide +kernel) rfl
theorem wt_543 : (Jvm.Cond.methodLink "AsleepPassLaw" (51 : Nat) ({ cls := "AsleepPass", name := "noise", desc := "(II)I" } : Jvm.MethodName)) ∈ GT := mT 543 (by decide +kernel) rfl
theorem wt_544 : (Jvm.Cond.instanceMethod ({ cls := "AsleepPass", name := "noise", desc := "(II)I" } : Jvm.MethodName)) ∈ GT := mT 544 (by decide +kernel) rfl
theorem wt_545 : (Jvm.Cond.selects "AsleepPass" ({ cls := "AsleepPass", name := "noise", desc := "(II)I" } : Jvm.MethodName) ({ cls := "AsleepPass", name := "noise", desc := "(II)I" } : Jvm.MethodName)) ∈ GT := mT 545 (by decide +kernel) rfl
theorem wt_546 : (Jvm.Cond.code ({ cls := "AsleepPass", name := "noise", desc := "(II)I" } : Jvm.MethodName) prog_1_method_10_code (3 : Nat) (Option.some Jvm.ClassFile.FieldType.int)) ∈ GT := mT 546 (by decide +kernel) rfl
theorem wt_547 : (Jvm.Cond.methodLink "AsleepPass" (158 : Nat) ({ cls := "AsleepPass", name := "change", desc := "([III)I" } : Jvm.MethodName)) ∈ GT := mT 547 (by decide +kernel) rfl
theorem wt_548 : (Jvm.Cond.static ({ cls := "AsleepPass", name := "change", desc := "([III)I" } : Jvm.MethodName)) ∈ GT := mT 548 (by decide +kernel) rfl
theorem wt_549 : (Jvm.Cond.code ({ cls := "AsleepPass", name := "change", desc := "([III)I" } : Jvm.MethodName) prog_1_method_15_code (4 : Nat) (Option.some Jvm.ClassFile.FieldType.int)) ∈ GT := mT 549 (by decide +kernel) rfl
theorem wt_550 : (Jvm.Cond.methodLink "AsleepPassLaw" (55 : Nat) ({ cls := "AsleepPass", name := "cold", desc := "(II)I" } : Jvm.MethodName)) ∈ GT := mT 550 (by decide +kernel) rfl
theorem wt_551 : (Jvm.Cond.instanceMethod ({ cls := "AsleepPass", name := "cold", desc := "(II)I" } : Jvm.MethodName)) ∈ GT := mT 551 (by decide +kernel) rfl
theorem wt_552 : (Jvm.Cond.selects "AsleepPass" ({ cls := "AsleepPass", name := "cold", desc := "(II)I" } : Jvm.MethodName) ({ cls := "AsleepPass", name := "cold", desc := "(II)I" } : Jvm.MethodName)) ∈ GT := mT 552 (by decide +kernel) rfl
theorem wt_553 : (Jvm.Cond.code ({ cls := "AsleepPass", name := "cold", desc := "(II)I" } : Jvm.MethodName) prog_1_method_11_code (3 : Nat) (Option.some Jvm.ClassFile.FieldType.int)) ∈ GT := mT 553 (by decide +kernel) rfl
theorem wt_554 : (Jvm.Cond.methodLink "AsleepPassLaw" (59 : Nat) ({ cls := "AsleepPass", name := "step", desc := "(II)I" } : Jvm.MethodName)) ∈ GT := mT 554 (by decide +kernel) rfl
theorem wt_555 : (Jvm.Cond.instanceMethod ({ cls := "AsleepPass", name := "step", desc := "(II)I" } : Jvm.MethodName)) ∈ GT := mT 555 (by decide +kernel) rfl
theorem wt_556 : (Jvm.Cond.selects "AsleepPass" ({ cls := "AsleepPass", name := "step", desc := "(II)I" } : Jvm.MethodName) ({ cls := "AsleepPass", name := "step", desc := "(II)I" } : Jvm.MethodName)) ∈ GT := mT 556 (by decide +kernel) rfl
theorem wt_557 : (Jvm.Cond.code ({ cls := "AsleepPass", name := "step", desc := "(II)I" } : Jvm.MethodName) prog_1_method_12_code (3 : Nat) (Option.some Jvm.ClassFile.FieldType.int)) ∈ GT := mT 557 (by decide +kernel) rfl
theorem wt_558 : (Jvm.Cond.methodLink "AsleepPassLaw" (63 : Nat) ({ cls := "AsleepPass", name := "warm", desc := "(II)I" } : Jvm.MethodName)) ∈ GT := mT 558 (by decide +kernel) rfl
theorem wt_559 : (Jvm.Cond.instanceMethod ({ cls := "AsleepPass", name := "warm", desc := "(II)I" } : Jvm.MethodName)) ∈ GT := mT 559 (by decide +kernel) rfl
theorem wt_560 : (Jvm.Cond.selects "AsleepPass" ({ cls := "AsleepPass", name := "warm", desc := "(II)I" } : Jvm.MethodName) ({ cls := "AsleepPass", name := "warm", desc := "(II)I" } : Jvm.MethodName)) ∈ GT := mT 560 (by decide +kernel) rfl
theorem wt_561 : (Jvm.Cond.code ({ cls := "AsleepPass", name := "warm", desc := "(II)I" } : Jvm.MethodName) prog_1_method_13_code (3 : Nat) (Option.some Jvm.ClassFile.FieldType.int)) ∈ GT := mT 561 (by decide +kernel) rfl
theorem wt_562 : (Jvm.Cond.methodLink "AsleepPassLaw" (67 : Nat) ({ cls := "AsleepPass", name := "put", desc := "(II)I" } : Jvm.MethodName)) ∈ GT := mT 562 (by decide +kernel) rfl
theorem wt_563 : (Jvm.Cond.instanceMethod ({ cls := "AsleepPass", name := "put", desc := "(II)I" } : Jvm.MethodName)) ∈ GT := mT 563 (by decide +kernel) rfl
theorem wt_564 : (Jvm.Cond.selects "AsleepPass" ({ cls := "AsleepPass", name := "put", desc := "(II)I" } : Jvm.MethodName) ({ cls := "AsleepPass", name := "put", desc := "(II)I" } : Jvm.MethodName)) ∈ GT := mT 564 (by decide +kernel) rfl
theorem wt_565 : (Jvm.Cond.code ({ cls := "AsleepPass", name := "put", desc := "(II)I" } : Jvm.MethodName) prog_1_method_14_code (4 : Nat) (Option.some Jvm.ClassFile.FieldType.int)) ∈ GT := mT 565 (by decide +kernel) rfl
theorem wt_566 : (Jvm.Cond.methodLink "AsleepPassLaw" (71 : Nat) ({ cls := "AsleepPass", name := "harm", desc := "(III)I" } : Jvm.MethodName)) ∈ GT := mT 566 (by decide +kernel) rfl
theorem wt_567 : (Jvm.Cond.instanceMethod ({ cls := "AsleepPass", name := "harm", desc := "(III)I" } : Jvm.MethodName)) ∈ GT := mT 567 (by decide +kernel) rfl
theorem wt_568 : (Jvm.Cond.selects "AsleepPass" ({ cls := "AsleepPass", name := "harm", desc := "(III)I" } : Jvm.MethodName) ({ cls := "AsleepPass", name := "harm", desc := "(III)I" } : Jvm.MethodName)) ∈ GT := mT 568 (by decide +kernel) rfl
theorem wt_569 : (Jvm.Cond.code ({ cls := "AsleepPass", name := "harm", desc := "(III)I" } : Jvm.MethodName) prog_1_method_16_code (4 : Nat) (Option.some Jvm.ClassFile.FieldType.int)) ∈ GT := mT 569 (by decide +kernel) rfl
theorem wn_570 : (Jvm.Cond.methodLinkNest "AsleepPass" (162 : Nat) ({ cls := "AsleepPass$Way", name := "canHand", desc := "(III)Z" } : Jvm.MethodName) "AsleepPass") ∈ NT := mN 570 (by decide +kernel) rfl
theorem wt_572 : (Jvm.Cond.instanceMethod ({ cls := "AsleepPass$Way", name := "canHand", desc := "(III)Z" } : Jvm.MethodName)) ∈ GT := mT 572 (by decide +kernel) rfl
theorem wt_573 : (Jvm.Cond.code ({ cls := "AsleepPass$Way", name := "canHand", desc := "(III)Z" } : Jvm.MethodName) prog_11_method_8_code (4 : Nat) (Option.some Jvm.ClassFile.FieldType.boolean)) ∈ GT := mT 573 (by decide +kernel) rfl
theorem wt_574 : (Jvm.Cond.methodLink "AsleepPass$Way" (46 : Nat) ({ cls := "AsleepPass$Way", name := "hasStretch", desc := "(I)Z" } : Jvm.MethodName)) ∈ GT := mT 574 (by decide +kernel) rfl
theorem wt_575 : (Jvm.Cond.methodLink "AsleepPass$Way" (50 : Nat) ({ cls := "AsleepPass$Way", name := "hasBearer", desc := "(I)Z" } : Jvm.MethodName)) ∈ GT := mT 575 (by decide +kernel) rfl
theorem wn_576 : (Jvm.Cond.methodLinkNest "AsleepPass" (166 : Nat) ({ cls := "AsleepPass$Way", name := "harmBy", desc := "(III)I" } : Jvm.MethodName) "AsleepPass") ∈ NT := mN 576 (by decide +kernel) rfl
theorem wt_578 : (Jvm.Cond.instanceMethod ({ cls := "AsleepPass$Way", name := "harmBy", desc := "(III)I" } : Jvm.MethodName)) ∈ GT := mT 578 (by decide +kernel) rfl
theorem wt_579 : (Jvm.Cond.code ({ cls := "AsleepPass$Way", name := "harmBy", desc := "(III)I" } : Jvm.MethodName) prog_11_method_9_code (4 : Nat) (Option.some Jvm.ClassFile.FieldType.int)) ∈ GT := mT 579 (by decide +kernel) rfl
theorem wt_580 : (Jvm.Cond.methodLink "AsleepPass$Way" (53 : Nat) ({ cls := "AsleepPass$Way", name := "canHand", desc := "(III)Z" } : Jvm.MethodName)) ∈ GT := mT 580 (by decide +kernel) rfl
theorem wt_581 : (Jvm.Cond.methodLink "AsleepPass$Way" (57 : Nat) ({ cls := "AsleepPass$Way", name := "noiseBy", desc := "(II)I" } : Jvm.MethodName)) ∈ GT := mT 581 (by decide +kernel) rfl
theorem wt_583 : (Jvm.Cond.instanceMethod ({ cls := "AsleepPass$Way", name := "noiseBy", desc := "(II)I" } : Jvm.MethodName)) ∈ GT := mT 583 (by decide +kernel) rfl
theorem wt_584 : (Jvm.Cond.code ({ cls := "AsleepPass$Way", name := "noiseBy", desc := "(II)I" } : Jvm.MethodName) prog_11_method_10_code (4 : Nat) (Option.some Jvm.ClassFile.FieldType.int)) ∈ GT := mT 584 (by decide +kernel) rfl
theorem wt_585 : (Jvm.Cond.methodLink "AsleepPass$Way" (72 : Nat) ({ cls := "java/lang/Math", name := "max", desc := "(II)I" } : Jvm.MethodName)) ∈ GT := mT 585 (by decide +kernel) rfl
theorem wt_586 : (Jvm.Cond.methodLink "AsleepPass$Way" (61 : Nat) ({ cls := "AsleepPass$Way", name := "coldBy", desc := "(II)I" } : Jvm.MethodName)) ∈ GT := mT 586 (by decide +kernel) rfl
theorem wt_588 : (Jvm.Cond.instanceMethod ({ cls := "AsleepPass$Way", name := "coldBy", desc := "(II)I" } : Jvm.MethodName)) ∈ GT := mT 588 (by decide +kernel) rfl
theorem wt_589 : (Jvm.Cond.code ({ cls := "AsleepPass$Way", name := "coldBy", desc := "(II)I" } : Jvm.MethodName) prog_11_method_11_code (4 : Nat) (Option.some Jvm.ClassFile.FieldType.int)) ∈ GT := mT 589 (by decide +kernel) rfl
theorem wt_590 : (Jvm.Cond.methodLink "AsleepPass$Way" (64 : Nat) ({ cls := "AsleepPass$Way", name := "joltBy", desc := "(II)I" } : Jvm.MethodName)) ∈ GT := mT 590 (by decide +kernel) rfl
theorem wt_592 : (Jvm.Cond.instanceMethod ({ cls := "AsleepPass$Way", name := "joltBy", desc := "(II)I" } : Jvm.MethodName)) ∈ GT := mT 592 (by decide +kernel) rfl
theorem wt_593 : (Jvm.Cond.code ({ cls := "AsleepPass$Way", name := "joltBy", desc := "(II)I" } : Jvm.MethodName) prog_11_method_12_code (4 : Nat) (Option.some Jvm.ClassFile.FieldType.int)) ∈ GT := mT 593 (by decide +kernel) rfl
theorem wt_594 : (Jvm.Cond.methodLink "AsleepPass$Way" (75 : Nat) ({ cls := "java/lang/Math", name := "abs", desc := "(I)I" } : Jvm.MethodName)) ∈ GT := mT 594 (by decide +kernel) rfl
theorem wt_595 : (Jvm.Cond.static ({ cls := "java/lang/Math", name := "abs", desc := "(I)I" } : Jvm.MethodName)) ∈ GT := mT 595 (by decide +kernel) rfl
theorem wt_596 : (Jvm.Cond.code ({ cls := "java/lang/Math", name := "abs", desc := "(I)I" } : Jvm.MethodName) prog_15_method_59_code (1 : Nat) (Option.some Jvm.ClassFile.FieldType.int)) ∈ GT := mT 596 (by decide +kernel) rfl
theorem wt_597 : (Jvm.Cond.methodLink "AsleepPass$Way" (67 : Nat) ({ cls := "java/lang/Math", name := "min", desc := "(II)I" } : Jvm.MethodName)) ∈ GT := mT 597 (by decide +kernel) rfl
theorem wt_598 : (Jvm.Cond.static ({ cls := "java/lang/Math", name := "min", desc := "(II)I" } : Jvm.MethodName)) ∈ GT := mT 598 (by decide +kernel) rfl
theorem wt_599 : (Jvm.Cond.code ({ cls := "java/lang/Math", name := "min", desc := "(II)I" } : Jvm.MethodName) prog_15_method_69_code (2 : Nat) (Option.some Jvm.ClassFile.FieldType.int)) ∈ GT := mT 599 (by decide +kernel) rfl
theorem wt_600 : (Jvm.Cond.methodLink "AsleepPassLaw" (76 : Nat) ({ cls := "AsleepPass", name := "wakes", desc := "(I)J" } : Jvm.MethodName)) ∈ GT := mT 600 (by decide +kernel) rfl
theorem wt_601 : (Jvm.Cond.instanceMethod ({ cls := "AsleepPass", name := "wakes", desc := "(I)J" } : Jvm.MethodName)) ∈ GT := mT 601 (by decide +kernel) rfl
theorem wt_602 : (Jvm.Cond.selects "AsleepPass" ({ cls := "AsleepPass", name := "wakes", desc := "(I)J" } : Jvm.MethodName) ({ cls := "AsleepPass", name := "wakes", desc := "(I)J" } : Jvm.MethodName)) ∈ GT := mT 602 (by decide +kernel) rfl
theorem wt_603 : (Jvm.Cond.code ({ cls := "AsleepPass", name := "wakes", desc := "(I)J" } : Jvm.MethodName) prog_1_method_17_code (2 : Nat) (Option.some Jvm.ClassFile.FieldType.long)) ∈ GT := mT 603 (by decide +kernel) rfl
theorem wt_604 : (Jvm.Cond.methodLink "AsleepPass" (170 : Nat) ({ cls := "AsleepPass", name := "isFractionPart", desc := "(I)Z" } : Jvm.MethodName)) ∈ GT := mT 604 (by decide +kernel) rfl
theorem wt_605 : (Jvm.Cond.static ({ cls := "AsleepPass", name := "isFractionPart", desc := "(I)Z" } : Jvm.MethodName)) ∈ GT := mT 605 (by decide +kernel) rfl
theorem wt_606 : (Jvm.Cond.code ({ cls := "AsleepPass", name := "isFractionPart", desc := "(I)Z" } : Jvm.MethodName) prog_1_method_43_code (1 : Nat) (Option.some Jvm.ClassFile.FieldType.boolean)) ∈ GT := mT 606 (by decide +kernel) rfl
theorem wt_607 : (Jvm.Cond.constantLong "AsleepPass" (173 : Nat) (-1 : Int64)) ∈ GT := mT 607 (by decide +kernel) rfl
theorem wn_608 : (Jvm.Cond.methodLinkNest "AsleepPass" (175 : Nat) ({ cls := "AsleepPass$Odds", name := "waking", desc := "(LAsleepPass$Way;II)J" } : Jvm.MethodName) "AsleepPass") ∈ NT := mN 608 (by decide +kernel) rfl
theorem wt_610 : (Jvm.Cond.instanceMethod ({ cls := "AsleepPass$Odds", name := "waking", desc := "(LAsleepPass$Way;II)J" } : Jvm.MethodName)) ∈ GT := mT 610 (by decide +kernel) rfl
theorem wt_611 : (Jvm.Cond.code ({ cls := "AsleepPass$Odds", name := "waking", desc := "(LAsleepPass$Way;II)J" } : Jvm.MethodName) prog_6_method_2_code (5 : Nat) (Option.some Jvm.ClassFile.FieldType.long)) ∈ GT := mT 611 (by decide +kernel) rfl
theorem wt_612 : (Jvm.Cond.methodLink "AsleepPass$Odds" (28 : Nat) ({ cls := "AsleepPass$Odds", name := "begin", desc := "(I)V" } : Jvm.MethodName)) ∈ GT := mT 612 (by decide +kernel) rfl
theorem wt_614 : (Jvm.Cond.instanceMethod ({ cls := "AsleepPass$Odds", name := "begin", desc := "(I)V" } : Jvm.MethodName)) ∈ GT := mT 614 (by decide +kernel) rfl
theorem wt_615 : (Jvm.Cond.code ({ cls := "AsleepPass$Odds", name := "begin", desc := "(I)V" } : Jvm.MethodName) prog_6_method_3_code (3 : Nat) (Option.none : Option Jvm.ClassFile.FieldType)) ∈ GT := mT 615 (by decide +kernel) rfl
theorem wt_616 : (Jvm.Cond.methodLink "AsleepPass$Odds" (32 : Nat) ({ cls := "AsleepPass$Odds", name := "deepen", desc := "()V" } : Jvm.MethodName)) ∈ GT := mT 616 (by decide +kernel) rfl
theorem wt_618 : (Jvm.Cond.instanceMethod ({ cls := "AsleepPass$Odds", name := "deepen", desc := "()V" } : Jvm.MethodName)) ∈ GT := mT 618 (by decide +kernel) rfl
theorem wt_619 : (Jvm.Cond.code ({ cls := "AsleepPass$Odds", name := "deepen", desc := "()V" } : Jvm.MethodName) prog_6_method_6_code (2 : Nat) (Option.none : Option Jvm.ClassFile.FieldType)) ∈ GT := mT 619 (by decide +kernel) rfl
theorem wt_620 : (Jvm.Cond.methodLink "AsleepPass$Odds" (42 : Nat) ({ cls := "AsleepPass$Odds", name := "takeAhead", desc := "()V" } : Jvm.MethodName)) ∈ GT := mT 620 (by decide +kernel) rfl
theorem wt_622 : (Jvm.Cond.instanceMethod ({ cls := "AsleepPass$Odds", name := "takeAhead", desc := "()V" } : Jvm.MethodName)) ∈ GT := mT 622 (by decide +kernel) rfl
theorem wt_623 : (Jvm.Cond.code ({ cls := "AsleepPass$Odds", name := "takeAhead", desc := "()V" } : Jvm.MethodName) prog_6_method_4_code (2 : Nat) (Option.none : Option Jvm.ClassFile.FieldType)) ∈ GT := mT 623 (by decide +kernel) rfl
theorem wt_624 : (Jvm.Cond.methodLink "AsleepPass$Odds" (47 : Nat) ({ cls := "java/lang/Math", name := "min", desc := "(II)I" } : Jvm.MethodName)) ∈ GT := mT 624 (by decide +kernel) rfl
theorem wn_625 : (Jvm.Cond.methodLinkNest "AsleepPass$Odds" (35 : Nat) ({ cls := "AsleepPass$Way", name := "harmInOrder", desc := "(I)I" } : Jvm.MethodName) "AsleepPass") ∈ NT := mN 625 (by decide +kernel) rfl
theorem wt_627 : (Jvm.Cond.instanceMethod ({ cls := "AsleepPass$Way", name := "harmInOrder", desc := "(I)I" } : Jvm.MethodName)) ∈ GT := mT 627 (by decide +kernel) rfl
theorem wt_628 : (Jvm.Cond.code ({ cls := "AsleepPass$Way", name := "harmInOrder", desc := "(I)I" } : Jvm.MethodName) prog_11_method_13_code (2 : Nat) (Option.some Jvm.ClassFile.FieldType.int)) ∈ GT := mT 628 (by decide +kernel) rfl
theorem wt_629 : (Jvm.Cond.methodLink "AsleepPass$Way" (79 : Nat) ({ cls := "AsleepPass$Way", name := "harmBy", desc := "(III)I" } : Jvm.MethodName)) ∈ GT := mT 629 (by decide +kernel) rfl
theorem wt_630 : (Jvm.Cond.methodLink "AsleepPass$Odds" (39 : Nat) ({ cls := "AsleepPass$Odds", name := "pass", desc := "(I)V" } : Jvm.MethodName)) ∈ GT := mT 630 (by decide +kernel) rfl
theorem wt_632 : (Jvm.Cond.instanceMethod ({ cls := "AsleepPass$Odds", name := "pass", desc := "(I)V" } : Jvm.MethodName)) ∈ GT := mT 632 (by decide +kernel) rfl
theorem wt_633 : (Jvm.Cond.code ({ cls := "AsleepPass$Odds", name := "pass", desc := "(I)V" } : Jvm.MethodName) prog_6_method_5_code (3 : Nat) (Option.none : Option Jvm.ClassFile.FieldType)) ∈ GT := mT 633 (by decide +kernel) rfl
theorem wt_634 : (Jvm.Cond.constantLong "AsleepPass$Odds" (45 : Nat) (20 : Int64)) ∈ GT := mT 634 (by decide +kernel) rfl
theorem wt_635 : (Jvm.Cond.methodLink "AsleepPass" (183 : Nat) ({ cls := "AsleepPass", name := "fraction", desc := "(JJI)J" } : Jvm.MethodName)) ∈ GT := mT 635 (by decide +kernel) rfl
theorem wt_636 : (Jvm.Cond.static ({ cls := "AsleepPass", name := "fraction", desc := "(JJI)J" } : Jvm.MethodName)) ∈ GT := mT 636 (by decide +kernel) rfl
theorem wt_637 : (Jvm.Cond.code ({ cls := "AsleepPass", name := "fraction", desc := "(JJI)J" } : Jvm.MethodName) prog_1_method_47_code (7 : Nat) (Option.some Jvm.ClassFile.FieldType.long)) ∈ GT := mT 637 (by decide +kernel) rfl
theorem wt_638 : (Jvm.Cond.methodLink "AsleepPass" (318 : Nat) ({ cls := "AsleepPass", name := "commonDivisor", desc := "(JJ)J" } : Jvm.MethodName)) ∈ GT := mT 638 (by decide +kernel) rfl
theorem wt_639 : (Jvm.Cond.static ({ cls := "AsleepPass", name := "commonDivisor", desc := "(JJ)J" } : Jvm.MethodName)) ∈ GT := mT 639 (by decide +kernel) rfl
theorem wt_640 : (Jvm.Cond.code ({ cls := "AsleepPass", name := "commonDivisor", desc := "(JJ)J" } : Jvm.MethodName) prog_1_method_48_code (11 : Nat) (Option.some Jvm.ClassFile.FieldType.long)) ∈ GT := mT 640 (by decide +kernel) rfl
theorem wt_641 : (Jvm.Cond.methodLink "AsleepPassLaw" (81 : Nat) ({ cls := "AsleepPass", name := "awake", desc := "(II)J" } : Jvm.MethodName)) ∈ GT := mT 641 (by decide +kernel) rfl
theorem wt_642 : (Jvm.Cond.instanceMethod ({ cls := "AsleepPass", name := "awake", desc := "(II)J" } : Jvm.MethodName)) ∈ GT := mT 642 (by decide +kernel) rfl
theorem wt_643 : (Jvm.Cond.selects "AsleepPass" ({ cls := "AsleepPass", name := "awake", desc := "(II)J" } : Jvm.MethodName) ({ cls := "AsleepPass", name := "awake", desc := "(II)J" } : Jvm.MethodName)) ∈ GT := mT 643 (by decide +kernel) rfl
theorem wt_644 : (Jvm.Cond.code ({ cls := "AsleepPass", name := "awake", desc := "(II)J" } : Jvm.MethodName) prog_1_method_18_code (3 : Nat) (Option.some Jvm.ClassFile.FieldType.long)) ∈ GT := mT 644 (by decide +kernel) rfl
theorem wt_645 : (Jvm.Cond.methodLink "AsleepPass" (187 : Nat) ({ cls := "AsleepPass", name := "depth", desc := "(III)J" } : Jvm.MethodName)) ∈ GT := mT 645 (by decide +kernel) rfl
theorem wt_646 : (Jvm.Cond.instanceMethod ({ cls := "AsleepPass", name := "depth", desc := "(III)J" } : Jvm.MethodName)) ∈ GT := mT 646 (by decide +kernel) rfl
theorem wt_647 : (Jvm.Cond.selects "AsleepPass" ({ cls := "AsleepPass", name := "depth", desc := "(III)J" } : Jvm.MethodName) ({ cls := "AsleepPass", name := "depth", desc := "(III)J" } : Jvm.MethodName)) ∈ GT := mT 647 (by decide +kernel) rfl
theorem wt_648 : (Jvm.Cond.code ({ cls := "AsleepPass", name := "depth", desc := "(III)J" } : Jvm.MethodName) prog_1_method_19_code (4 : Nat) (Option.some Jvm.ClassFile.FieldType.long)) ∈ GT := mT 648 (by decide +kernel) rfl
theorem wt_649 : (Jvm.Cond.methodLink "AsleepPass" (191 : Nat) ({ cls := "AsleepPass", name := "isDepth", desc := "(I)Z" } : Jvm.MethodName)) ∈ GT := mT 649 (by decide +kernel) rfl
theorem wt_650 : (Jvm.Cond.static ({ cls := "AsleepPass", name := "isDepth", desc := "(I)Z" } : Jvm.MethodName)) ∈ GT := mT 650 (by decide +kernel) rfl
theorem wt_651 : (Jvm.Cond.code ({ cls := "AsleepPass", name := "isDepth", desc := "(I)Z" } : Jvm.MethodName) prog_1_method_45_code (1 : Nat) (Option.some Jvm.ClassFile.FieldType.boolean)) ∈ GT := mT 651 (by decide +kernel) rfl
theorem wt_652 : (Jvm.Cond.methodLink "AsleepPassLaw" (86 : Nat) ({ cls := "AsleepPass", name := "depth", desc := "(III)J" } : Jvm.MethodName)) ∈ GT := mT 652 (by decide +kernel) rfl
theorem wt_653 : (Jvm.Cond.methodLink "AsleepPassLaw" (91 : Nat) ({ cls := "AsleepPass", name := "best", desc := "(I)J" } : Jvm.MethodName)) ∈ GT := mT 653 (by decide +kernel) rfl
theorem wt_654 : (Jvm.Cond.instanceMethod ({ cls := "AsleepPass", name := "best", desc := "(I)J" } : Jvm.MethodName)) ∈ GT := mT 654 (by decide +kernel) rfl
theorem wt_655 : (Jvm.Cond.selects "AsleepPass" ({ cls := "AsleepPass", name := "best", desc := "(I)J" } : Jvm.MethodName) ({ cls := "AsleepPass", name := "best", desc := "(I)J" } : Jvm.MethodName)) ∈ GT := mT 655 (by decide +kernel) rfl
theorem wt_656 : (Jvm.Cond.code ({ cls := "AsleepPass", name := "best", desc := "(I)J" } : Jvm.MethodName) prog_1_method_20_code (2 : Nat) (Option.some Jvm.ClassFile.FieldType.long)) ∈ GT := mT 656 (by decide +kernel) rfl
theorem wn_657 : (Jvm.Cond.methodLinkNest "AsleepPass" (198 : Nat) ({ cls := "AsleepPass$Choice", name := "plan", desc := "(LAsleepPass$Way;I)V" } : Jvm.MethodName) "AsleepPass") ∈ NT := mN 657 (by decide +kernel) rfl
theorem wt_659 : (Jvm.Cond.instanceMethod ({ cls := "AsleepPass$Choice", name := "plan", desc := "(LAsleepPass$Way;I)V" } : Jvm.MethodName)) ∈ GT := mT 659 (by decide +kernel) rfl
theorem wt_660 : (Jvm.Cond.code ({ cls := "AsleepPass$Choice", name := "plan", desc := "(LAsleepPass$Way;I)V" } : Jvm.MethodName) prog_2_method_3_code (5 : Nat) (Option.none : Option Jvm.ClassFile.FieldType)) ∈ GT := mT 660 (by decide +kernel) rfl
theorem wt_661 : (Jvm.Cond.constantLong "AsleepPass$Choice" (31 : Nat) (20 : Int64)) ∈ GT := mT 661 (by decide +kernel) rfl
theorem wt_662 : (Jvm.Cond.methodLink "AsleepPass$Choice" (33 : Nat) ({ cls := "AsleepPass$Choice", name := "chooseFrom", desc := "(LAsleepPass$Way;III)V" } : Jvm.MethodName)) ∈ GT := mT 662 (by decide +kernel) rfl
theorem wt_664 : (Jvm.Cond.instanceMethod ({ cls := "AsleepPass$Choice", name := "chooseFrom", desc := "(LAsleepPass$Way;III)V" } : Jvm.MethodName)) ∈ GT := mT 664 (by decide +kernel) rfl
theorem wt_665 : (Jvm.Cond.code ({ cls := "AsleepPass$Choice", name := "chooseFrom", desc := "(LAsleepPass$Way;III)V" } : Jvm.MethodName) prog_2_method_4_code (6 : Nat) (Option.none : Option Jvm.ClassFile.FieldType)) ∈ GT := mT 665 (by decide +kernel) rfl
theorem wt_666 : (Jvm.Cond.methodLink "AsleepPass$Choice" (40 : Nat) ({ cls := "AsleepPass$Choice", name := "slot", desc := "(II)I" } : Jvm.MethodName)) ∈ GT := mT 666 (by decide +kernel) rfl
theorem wt_667 : (Jvm.Cond.static ({ cls := "AsleepPass$Choice", name := "slot", desc := "(II)I" } : Jvm.MethodName)) ∈ GT := mT 667 (by decide +kernel) rfl
theorem wt_668 : (Jvm.Cond.code ({ cls := "AsleepPass$Choice", name := "slot", desc := "(II)I" } : Jvm.MethodName) prog_2_method_2_code (2 : Nat) (Option.some Jvm.ClassFile.FieldType.int)) ∈ GT := mT 668 (by decide +kernel) rfl
theorem wt_669 : (Jvm.Cond.constantLong "AsleepPass$Choice" (44 : Nat) (1152921504606846976 : Int64)) ∈ GT := mT 669 (by decide +kernel) rfl
theorem wn_670 : (Jvm.Cond.methodLinkNest "AsleepPass$Choice" (46 : Nat) ({ cls := "AsleepPass$Way", name := "harmBy", desc := "(III)I" } : Jvm.MethodName) "AsleepPass") ∈ NT := mN 670 (by decide +kernel) rfl
theorem wt_671 : (Jvm.Cond.methodLink "AsleepPass$Choice" (50 : Nat) ({ cls := "AsleepPass$Choice", name := "weigh", desc := "(IIII)V" } : Jvm.MethodName)) ∈ GT := mT 671 (by decide +kernel) rfl
theorem wt_673 : (Jvm.Cond.instanceMethod ({ cls := "AsleepPass$Choice", name := "weigh", desc := "(IIII)V" } : Jvm.MethodName)) ∈ GT := mT 673 (by decide +kernel) rfl
theorem wt_674 : (Jvm.Cond.code ({ cls := "AsleepPass$Choice", name := "weigh", desc := "(IIII)V" } : Jvm.MethodName) prog_2_method_5_code (12 : Nat) (Option.none : Option Jvm.ClassFile.FieldType)) ∈ GT := mT 674 (by decide +kernel) rfl
theorem wt_675 : (Jvm.Cond.methodLink "AsleepPass$Choice" (54 : Nat) ({ cls := "java/lang/Math", name := "min", desc := "(II)I" } : Jvm.MethodName)) ∈ GT := mT 675 (by decide +kernel) rfl
theorem wn_676 : (Jvm.Cond.methodLinkNest "AsleepPass" (202 : Nat) ({ cls := "AsleepPass$Choice", name := "wakingAtFirst", desc := "(LAsleepPass$Way;)J" } : Jvm.MethodName) "AsleepPass") ∈ NT := mN 676 (by decide +kernel) rfl
theorem wt_678 : (Jvm.Cond.instanceMethod ({ cls := "AsleepPass$Choice", name := "wakingAtFirst", desc := "(LAsleepPass$Way;)J" } : Jvm.MethodName)) ∈ GT := mT 678 (by decide +kernel) rfl
theorem wt_679 : (Jvm.Cond.code ({ cls := "AsleepPass$Choice", name := "wakingAtFirst", desc := "(LAsleepPass$Way;)J" } : Jvm.MethodName) prog_2_method_6_code (2 : Nat) (Option.some Jvm.ClassFile.FieldType.long)) ∈ GT := mT 679 (by decide +kernel) rfl
theorem wt_680 : (Jvm.Cond.methodLink "AsleepPassLaw" (95 : Nat) ({ cls := "AsleepPass", name := "next", desc := "(III)I" } : Jvm.MethodName)) ∈ GT := mT 680 (by decide +kernel) rfl
theorem wt_681 : (Jvm.Cond.instanceMethod ({ cls := "AsleepPass", name := "next", desc := "(III)I" } : Jvm.MethodName)) ∈ GT := mT 681 (by decide +kernel) rfl
theorem wt_682 : (Jvm.Cond.selects "AsleepPass" ({ cls := "AsleepPass", name := "next", desc := "(III)I" } : Jvm.MethodName) ({ cls := "AsleepPass", name := "next", desc := "(III)I" } : Jvm.MethodName)) ∈ GT := mT 682 (by decide +kernel) rfl
theorem wt_683 : (Jvm.Cond.code ({ cls := "AsleepPass", name := "next", desc := "(III)I" } : Jvm.MethodName) prog_1_method_21_code (5 : Nat) (Option.some Jvm.ClassFile.FieldType.int)) ∈ GT := mT 683 (by decide +kernel) rfl
theorem wn_684 : (Jvm.Cond.methodLinkNest "AsleepPass" (211 : Nat) ({ cls := "AsleepPass$Choice", name := "slot", desc := "(II)I" } : Jvm.MethodName) "AsleepPass") ∈ NT := mN 684 (by decide +kernel) rfl
theorem wt_685 : (Jvm.Cond.methodLink "AsleepPassLaw" (99 : Nat) ({ cls := "AsleepPass", name := "without", desc := "(II)J" } : Jvm.MethodName)) ∈ GT := mT 685 (by decide +kernel) rfl
theorem wt_686 : (Jvm.Cond.instanceMethod ({ cls := "AsleepPass", name := "without", desc := "(II)J" } : Jvm.MethodName)) ∈ GT := mT 686 (by decide +kernel) rfl
theorem wt_687 : (Jvm.Cond.selects "AsleepPass" ({ cls := "AsleepPass", name := "without", desc := "(II)J" } : Jvm.MethodName) ({ cls := "AsleepPass", name := "without", desc := "(II)J" } : Jvm.MethodName)) ∈ GT := mT 687 (by decide +kernel) rfl
theorem wt_688 : (Jvm.Cond.code ({ cls := "AsleepPass", name := "without", desc := "(II)J" } : Jvm.MethodName) prog_1_method_22_code (3 : Nat) (Option.some Jvm.ClassFile.FieldType.long)) ∈ GT := mT 688 (by decide +kernel) rfl
theorem wt_689 : (Jvm.Cond.constantLong "AsleepPass" (215 : Nat) (-2 : Int64)) ∈ GT := mT 689 (by decide +kernel) rfl
theorem wt_690 : (Jvm.Cond.methodLink "AsleepPassLaw" (103 : Nat) ({ cls := "AsleepPass", name := "quiet", desc := "(II)J" } : Jvm.MethodName)) ∈ GT := mT 690 (by decide +kernel) rfl
theorem wt_691 : (Jvm.Cond.instanceMethod ({ cls := "AsleepPass", name := "quiet", desc := "(II)J" } : Jvm.MethodName)) ∈ GT := mT 691 (by decide +kernel) rfl
theorem wt_692 : (Jvm.Cond.selects "AsleepPass" ({ cls := "AsleepPass", name := "quiet", desc := "(II)J" } : Jvm.MethodName) ({ cls := "AsleepPass", name := "quiet", desc := "(II)J" } : Jvm.MethodName)) ∈ GT := mT 692 (by decide +kernel) rfl
theorem wt_693 : (Jvm.Cond.code ({ cls := "AsleepPass", name := "quiet", desc := "(II)J" } : Jvm.MethodName) prog_1_method_23_code (10 : Nat) (Option.some Jvm.ClassFile.FieldType.long)) ∈ GT := mT 693 (by decide +kernel) rfl
theorem wt_694 : (Jvm.Cond.methodLink "AsleepPass" (217 : Nat) ({ cls := "AsleepPass", name := "isAnswerPart", desc := "(I)Z" } : Jvm.MethodName)) ∈ GT := mT 694 (by decide +kernel) rfl
theorem wt_695 : (Jvm.Cond.static ({ cls := "AsleepPass", name := "isAnswerPart", desc := "(I)Z" } : Jvm.MethodName)) ∈ GT := mT 695 (by decide +kernel) rfl
theorem wt_696 : (Jvm.Cond.code ({ cls := "AsleepPass", name := "isAnswerPart", desc := "(I)Z" } : Jvm.MethodName) prog_1_method_44_code (1 : Nat) (Option.some Jvm.ClassFile.FieldType.boolean)) ∈ GT := mT 696 (by decide +kernel) rfl
theorem wt_697 : (Jvm.Cond.methodLink "AsleepPass" (220 : Nat) ({ cls := "java/lang/Integer", name := "bitCount", desc := "(I)I" } : Jvm.MethodName)) ∈ GT := mT 697 (by decide +kernel) rfl
theorem wt_698 : (Jvm.Cond.static ({ cls := "java/lang/Integer", name := "bitCount", desc := "(I)I" } : Jvm.MethodName)) ∈ GT := mT 698 (by decide +kernel) rfl
theorem wt_699 : (Jvm.Cond.code ({ cls := "java/lang/Integer", name := "bitCount", desc := "(I)I" } : Jvm.MethodName) prog_14_method_49_code (1 : Nat) (Option.some Jvm.ClassFile.FieldType.int)) ∈ GT := mT 699 (by decide +kernel) rfl
theorem wt_700 : (Jvm.Cond.constant "java/lang/Integer" (265 : Nat) (1431655765 : Int32)) ∈ GT := mT 700 (by decide +kernel) rfl
theorem wt_701 : (Jvm.Cond.constant "java/lang/Integer" (266 : Nat) (858993459 : Int32)) ∈ GT := mT 701 (by decide +kernel) rfl
theorem wt_702 : (Jvm.Cond.constant "java/lang/Integer" (267 : Nat) (252645135 : Int32)) ∈ GT := mT 702 (by decide +kernel) rfl
theorem wt_703 : (Jvm.Cond.methodLink "AsleepPass" (226 : Nat) ({ cls := "AsleepPass", name := "stopNoises", desc := "(I)V" } : Jvm.MethodName)) ∈ GT := mT 703 (by decide +kernel) rfl
theorem wt_705 : (Jvm.Cond.instanceMethod ({ cls := "AsleepPass", name := "stopNoises", desc := "(I)V" } : Jvm.MethodName)) ∈ GT := mT 705 (by decide +kernel) rfl
theorem wt_706 : (Jvm.Cond.code ({ cls := "AsleepPass", name := "stopNoises", desc := "(I)V" } : Jvm.MethodName) prog_1_method_24_code (3 : Nat) (Option.none : Option Jvm.ClassFile.FieldType)) ∈ GT := mT 706 (by decide +kernel) rfl
theorem wt_707 : (Jvm.Cond.methodLink "AsleepPassLaw" (107 : Nat) ({ cls := "AsleepPass", name := "drop", desc := "(I)J" } : Jvm.MethodName)) ∈ GT := mT 707 (by decide +kernel) rfl
theorem wt_708 : (Jvm.Cond.instanceMethod ({ cls := "AsleepPass", name := "drop", desc := "(I)J" } : Jvm.MethodName)) ∈ GT := mT 708 (by decide +kernel) rfl
theorem wt_709 : (Jvm.Cond.selects "AsleepPass" ({ cls := "AsleepPass", name := "drop", desc := "(I)J" } : Jvm.MethodName) ({ cls := "AsleepPass", name := "drop", desc := "(I)J" } : Jvm.MethodName)) ∈ GT := mT 709 (by decide +kernel) rfl
theorem wt_710 : (Jvm.Cond.code ({ cls := "AsleepPass", name := "drop", desc := "(I)J" } : Jvm.MethodName) prog_1_method_25_code (8 : Nat) (Option.some Jvm.ClassFile.FieldType.long)) ∈ GT := mT 710 (by decide +kernel) rfl
theorem wt_711 : (Jvm.Cond.methodLink "AsleepPassLaw" (111 : Nat) ({ cls := "AsleepPass", name := "swap", desc := "(I)J" } : Jvm.MethodName)) ∈ GT := mT 711 (by decide +kernel) rfl
theorem wt_712 : (Jvm.Cond.instanceMethod ({ cls := "AsleepPass", name := "swap", desc := "(I)J" } : Jvm.MethodName)) ∈ GT := mT 712 (by decide +kernel) rfl
theorem wt_713 : (Jvm.Cond.selects "AsleepPass" ({ cls := "AsleepPass", name := "swap", desc := "(I)J" } : Jvm.MethodName) ({ cls := "AsleepPass", name := "swap", desc := "(I)J" } : Jvm.MethodName)) ∈ GT := mT 713 (by decide +kernel) rfl
theorem wt_714 : (Jvm.Cond.code ({ cls := "AsleepPass", name := "swap", desc := "(I)J" } : Jvm.MethodName) prog_1_method_26_code (9 : Nat) (Option.some Jvm.ClassFile.FieldType.long)) ∈ GT := mT 714 (by decide +kernel) rfl
theorem wn_715 : (Jvm.Cond.methodLinkNest "AsleepPass" (230 : Nat) ({ cls := "AsleepPass$Way", name := "exchange", desc := "(II)V" } : Jvm.MethodName) "AsleepPass") ∈ NT := mN 715 (by decide +kernel) rfl
theorem wt_717 : (Jvm.Cond.instanceMethod ({ cls := "AsleepPass$Way", name := "exchange", desc := "(II)V" } : Jvm.MethodName)) ∈ GT := mT 717 (by decide +kernel) rfl
theorem wt_718 : (Jvm.Cond.code ({ cls := "AsleepPass$Way", name := "exchange", desc := "(II)V" } : Jvm.MethodName) prog_11_method_14_code (4 : Nat) (Option.none : Option Jvm.ClassFile.FieldType)) ∈ GT := mT 718 (by decide +kernel) rfl
theorem wt_719 : (Jvm.Cond.methodLink "AsleepPassLaw" (115 : Nat) ({ cls := "AsleepPass", name := "carry", desc := "(II)I" } : Jvm.MethodName)) ∈ GT := mT 719 (by decide +kernel) rfl
theorem wt_720 : (Jvm.Cond.instanceMethod ({ cls := "AsleepPass", name := "carry", desc := "(II)I" } : Jvm.MethodName)) ∈ GT := mT 720 (by decide +kernel) rfl
theorem wt_721 : (Jvm.Cond.selects "AsleepPass" ({ cls := "AsleepPass", name := "carry", desc := "(II)I" } : Jvm.MethodName) ({ cls := "AsleepPass", name := "carry", desc := "(II)I" } : Jvm.MethodName)) ∈ GT := mT 721 (by decide +kernel) rfl
theorem wt_722 : (Jvm.Cond.code ({ cls := "AsleepPass", name := "carry", desc := "(II)I" } : Jvm.MethodName) prog_1_method_27_code (3 : Nat) (Option.some Jvm.ClassFile.FieldType.int)) ∈ GT := mT 722 (by decide +kernel) rfl
theorem wn_723 : (Jvm.Cond.methodLinkNest "AsleepPass" (234 : Nat) ({ cls := "AsleepPass$Crossing", name := "cross", desc := "(LAsleepPass$Way;I)V" } : Jvm.MethodName) "AsleepPass") ∈ NT := mN 723 (by decide +kernel) rfl
theorem wt_725 : (Jvm.Cond.instanceMethod ({ cls := "AsleepPass$Crossing", name := "cross", desc := "(LAsleepPass$Way;I)V" } : Jvm.MethodName)) ∈ GT := mT 725 (by decide +kernel) rfl
theorem wt_726 : (Jvm.Cond.code ({ cls := "AsleepPass$Crossing", name := "cross", desc := "(LAsleepPass$Way;I)V" } : Jvm.MethodName) prog_3_method_2_code (5 : Nat) (Option.none : Option Jvm.ClassFile.FieldType)) ∈ GT := mT 726 (by decide +kernel) rfl
theorem wt_727 : (Jvm.Cond.constant "AsleepPass$Crossing" (29 : Nat) (1103515245 : Int32)) ∈ GT := mT 727 (by decide +kernel) rfl
theorem wn_728 : (Jvm.Cond.methodLinkNest "AsleepPass$Crossing" (30 : Nat) ({ cls := "AsleepPass$Way", name := "harmInOrder", desc := "(I)I" } : Jvm.MethodName) "AsleepPass") ∈ NT := mN 728 (by decide +kernel) rfl
theorem wt_729 : (Jvm.Cond.methodLink "AsleepPass$Crossing" (34 : Nat) ({ cls := "java/lang/Math", name := "min", desc := "(II)I" } : Jvm.MethodName)) ∈ GT := mT 729 (by decide +kernel) rfl
theorem wt_730 : (Jvm.Cond.methodLink "AsleepPassLaw" (119 : Nat) ({ cls := "AsleepPass", name := "learn", desc := "(IIII)I" } : Jvm.MethodName)) ∈ GT := mT 730 (by decide +kernel) rfl
theorem wt_731 : (Jvm.Cond.instanceMethod ({ cls := "AsleepPass", name := "learn", desc := "(IIII)I" } : Jvm.MethodName)) ∈ GT := mT 731 (by decide +kernel) rfl
theorem wt_732 : (Jvm.Cond.selects "AsleepPass" ({ cls := "AsleepPass", name := "learn", desc := "(IIII)I" } : Jvm.MethodName) ({ cls := "AsleepPass", name := "learn", desc := "(IIII)I" } : Jvm.MethodName)) ∈ GT := mT 732 (by decide +kernel) rfl
theorem wt_733 : (Jvm.Cond.code ({ cls := "AsleepPass", name := "learn", desc := "(IIII)I" } : Jvm.MethodName) prog_1_method_28_code (5 : Nat) (Option.some Jvm.ClassFile.FieldType.int)) ∈ GT := mT 733 (by decide +kernel) rfl
theorem wn_734 : (Jvm.Cond.methodLinkNest "AsleepPass" (246 : Nat) ({ cls := "AsleepPass$Learnt", name := "add", desc := "(IIII)Z" } : Jvm.MethodName) "AsleepPass") ∈ NT := mN 734 (by decide +kernel) rfl
theorem wt_736 : (Jvm.Cond.instanceMethod ({ cls := "AsleepPass$Learnt", name := "add", desc := "(IIII)Z" } : Jvm.MethodName)) ∈ GT := mT 736 (by decide +kernel) rfl
theorem wt_737 : (Jvm.Cond.code ({ cls := "AsleepPass$Learnt", name := "add", desc := "(IIII)Z" } : Jvm.MethodName) prog_4_method_2_code (5 : Nat) (Option.some Jvm.ClassFile.FieldType.boolean)) ∈ GT := mT 737 (by decide +kernel) rfl
theorem wt_738 : (Jvm.Cond.methodLink "AsleepPassLaw" (124 : Nat) ({ cls := "AsleepPass", name := "forget", desc := "(I)I" } : Jvm.MethodName)) ∈ GT := mT 738 (by decide +kernel) rfl
theorem wt_739 : (Jvm.Cond.instanceMethod ({ cls := "AsleepPass", name := "forget", desc := "(I)I" } : Jvm.MethodName)) ∈ GT := mT 739 (by decide +kernel) rfl
theorem wt_740 : (Jvm.Cond.selects "AsleepPass" ({ cls := "AsleepPass", name := "forget", desc := "(I)I" } : Jvm.MethodName) ({ cls := "AsleepPass", name := "forget", desc := "(I)I" } : Jvm.MethodName)) ∈ GT := mT 740 (by decide +kernel) rfl
theorem wt_741 : (Jvm.Cond.code ({ cls := "AsleepPass", name := "forget", desc := "(I)I" } : Jvm.MethodName) prog_1_method_29_code (3 : Nat) (Option.some Jvm.ClassFile.FieldType.int)) ∈ GT := mT 741 (by decide +kernel) rfl
theorem wt_742 : (Jvm.Cond.methodLink "AsleepPassLaw" (128 : Nat) ({ cls := "AsleepPass", name := "steps", desc := "(II)I" } : Jvm.MethodName)) ∈ GT := mT 742 (by decide +kernel) rfl
theorem wt_743 : (Jvm.Cond.instanceMethod ({ cls := "AsleepPass", name := "steps", desc := "(II)I" } : Jvm.MethodName)) ∈ GT := mT 743 (by decide +kernel) rfl
theorem wt_744 : (Jvm.Cond.selects "AsleepPass" ({ cls := "AsleepPass", name := "steps", desc := "(II)I" } : Jvm.MethodName) ({ cls := "AsleepPass", name := "steps", desc := "(II)I" } : Jvm.MethodName)) ∈ GT := mT 744 (by decide +kernel) rfl
theorem wt_745 : (Jvm.Cond.code ({ cls := "AsleepPass", name := "steps", desc := "(II)I" } : Jvm.MethodName) prog_1_method_30_code (7 : Nat) (Option.some Jvm.ClassFile.FieldType.int)) ∈ GT := mT 745 (by decide +kernel) rfl
theorem wn_746 : (Jvm.Cond.methodLinkNest "AsleepPass" (250 : Nat) ({ cls := "AsleepPass$Learnt", name := "isSo", desc := "(LAsleepPass$Way;)Z" } : Jvm.MethodName) "AsleepPass") ∈ NT := mN 746 (by decide +kernel) rfl
theorem wt_748 : (Jvm.Cond.instanceMethod ({ cls := "AsleepPass$Learnt", name := "isSo", desc := "(LAsleepPass$Way;)Z" } : Jvm.MethodName)) ∈ GT := mT 748 (by decide +kernel) rfl
theorem wt_749 : (Jvm.Cond.code ({ cls := "AsleepPass$Learnt", name := "isSo", desc := "(LAsleepPass$Way;)Z" } : Jvm.MethodName) prog_4_method_3_code (3 : Nat) (Option.some Jvm.ClassFile.FieldType.boolean)) ∈ GT := mT 749 (by decide +kernel) rfl
theorem wn_750 : (Jvm.Cond.methodLinkNest "AsleepPass$Learnt" (26 : Nat) ({ cls := "AsleepPass$Way", name := "harmBy", desc := "(III)I" } : Jvm.MethodName) "AsleepPass") ∈ NT := mN 750 (by decide +kernel) rfl
theorem wt_751 : (Jvm.Cond.methodLink "AsleepPassLaw" (132 : Nat) ({ cls := "AsleepPass", name := "mark", desc := "(II)I" } : Jvm.MethodName)) ∈ GT := mT 751 (by decide +kernel) rfl
theorem wt_752 : (Jvm.Cond.instanceMethod ({ cls := "AsleepPass", name := "mark", desc := "(II)I" } : Jvm.MethodName)) ∈ GT := mT 752 (by decide +kernel) rfl
theorem wt_753 : (Jvm.Cond.selects "AsleepPass" ({ cls := "AsleepPass", name := "mark", desc := "(II)I" } : Jvm.MethodName) ({ cls := "AsleepPass", name := "mark", desc := "(II)I" } : Jvm.MethodName)) ∈ GT := mT 753 (by decide +kernel) rfl
theorem wt_754 : (Jvm.Cond.code ({ cls := "AsleepPass", name := "mark", desc := "(II)I" } : Jvm.MethodName) prog_1_method_31_code (3 : Nat) (Option.some Jvm.ClassFile.FieldType.int)) ∈ GT := mT 754 (by decide +kernel) rfl
theorem wn_755 : (Jvm.Cond.methodLinkNest "AsleepPass" (254 : Nat) ({ cls := "AsleepPass$Marked", name := "add", desc := "(II)Z" } : Jvm.MethodName) "AsleepPass") ∈ NT := mN 755 (by decide +kernel) rfl
theorem wt_757 : (Jvm.Cond.instanceMethod ({ cls := "AsleepPass$Marked", name := "add", desc := "(II)Z" } : Jvm.MethodName)) ∈ GT := mT 757 (by decide +kernel) rfl
theorem wt_758 : (Jvm.Cond.code ({ cls := "AsleepPass$Marked", name := "add", desc := "(II)Z" } : Jvm.MethodName) prog_5_method_2_code (3 : Nat) (Option.some Jvm.ClassFile.FieldType.boolean)) ∈ GT := mT 758 (by decide +kernel) rfl
theorem wt_759 : (Jvm.Cond.methodLink "AsleepPassLaw" (136 : Nat) ({ cls := "AsleepPass", name := "wipe", desc := "(I)I" } : Jvm.MethodName)) ∈ GT := mT 759 (by decide +kernel) rfl
theorem wt_760 : (Jvm.Cond.instanceMethod ({ cls := "AsleepPass", name := "wipe", desc := "(I)I" } : Jvm.MethodName)) ∈ GT := mT 760 (by decide +kernel) rfl
theorem wt_761 : (Jvm.Cond.selects "AsleepPass" ({ cls := "AsleepPass", name := "wipe", desc := "(I)I" } : Jvm.MethodName) ({ cls := "AsleepPass", name := "wipe", desc := "(I)I" } : Jvm.MethodName)) ∈ GT := mT 761 (by decide +kernel) rfl
theorem wt_762 : (Jvm.Cond.code ({ cls := "AsleepPass", name := "wipe", desc := "(I)I" } : Jvm.MethodName) prog_1_method_32_code (3 : Nat) (Option.some Jvm.ClassFile.FieldType.int)) ∈ GT := mT 762 (by decide +kernel) rfl
theorem wt_763 : (Jvm.Cond.methodLink "AsleepPassLaw" (140 : Nat) ({ cls := "AsleepPass", name := "paths", desc := "()I" } : Jvm.MethodName)) ∈ GT := mT 763 (by decide +kernel) rfl
theorem wt_764 : (Jvm.Cond.instanceMethod ({ cls := "AsleepPass", name := "paths", desc := "()I" } : Jvm.MethodName)) ∈ GT := mT 764 (by decide +kernel) rfl
theorem wt_765 : (Jvm.Cond.selects "AsleepPass" ({ cls := "AsleepPass", name := "paths", desc := "()I" } : Jvm.MethodName) ({ cls := "AsleepPass", name := "paths", desc := "()I" } : Jvm.MethodName)) ∈ GT := mT 765 (by decide +kernel) rfl
theorem wt_766 : (Jvm.Cond.code ({ cls := "AsleepPass", name := "paths", desc := "()I" } : Jvm.MethodName) prog_1_method_33_code (1 : Nat) (Option.some Jvm.ClassFile.FieldType.int)) ∈ GT := mT 766 (by decide +kernel) rfl
theorem wn_767 : (Jvm.Cond.methodLinkNest "AsleepPass" (257 : Nat) ({ cls := "AsleepPass$Trails", name := "explore", desc := "(LAsleepPass$Way;LAsleepPass$Marked;)V" } : Jvm.MethodName) "AsleepPass") ∈ NT := mN 767 (by decide +kernel) rfl
theorem wt_769 : (Jvm.Cond.instanceMethod ({ cls := "AsleepPass$Trails", name := "explore", desc := "(LAsleepPass$Way;LAsleepPass$Marked;)V" } : Jvm.MethodName)) ∈ GT := mT 769 (by decide +kernel) rfl
theorem wt_770 : (Jvm.Cond.code ({ cls := "AsleepPass$Trails", name := "explore", desc := "(LAsleepPass$Way;LAsleepPass$Marked;)V" } : Jvm.MethodName) prog_10_method_2_code (4 : Nat) (Option.none : Option Jvm.ClassFile.FieldType)) ∈ GT := mT 770 (by decide +kernel) rfl
theorem wn_771 : (Jvm.Cond.methodLinkNest "AsleepPass$Trails" (28 : Nat) ({ cls := "AsleepPass$Way", name := "harmInOrder", desc := "(I)I" } : Jvm.MethodName) "AsleepPass") ∈ NT := mN 771 (by decide +kernel) rfl
theorem wt_772 : (Jvm.Cond.methodLink "AsleepPass$Trails" (32 : Nat) ({ cls := "AsleepPass$Trails", name := "leadInto", desc := "(II)V" } : Jvm.MethodName)) ∈ GT := mT 772 (by decide +kernel) rfl
theorem wt_774 : (Jvm.Cond.instanceMethod ({ cls := "AsleepPass$Trails", name := "leadInto", desc := "(II)V" } : Jvm.MethodName)) ∈ GT := mT 774 (by decide +kernel) rfl
theorem wt_775 : (Jvm.Cond.code ({ cls := "AsleepPass$Trails", name := "leadInto", desc := "(II)V" } : Jvm.MethodName) prog_10_method_4_code (4 : Nat) (Option.none : Option Jvm.ClassFile.FieldType)) ∈ GT := mT 775 (by decide +kernel) rfl
theorem wt_776 : (Jvm.Cond.methodLink "AsleepPass$Trails" (52 : Nat) ({ cls := "java/lang/Math", name := "min", desc := "(II)I" } : Jvm.MethodName)) ∈ GT := mT 776 (by decide +kernel) rfl
theorem wt_777 : (Jvm.Cond.methodLink "AsleepPass$Trails" (36 : Nat) ({ cls := "AsleepPass$Trails", name := "dropUnmarked", desc := "([ILAsleepPass$Marked;I)V" } : Jvm.MethodName)) ∈ GT := mT 777 (by decide +kernel) rfl
theorem wt_778 : (Jvm.Cond.static ({ cls := "AsleepPass$Trails", name := "dropUnmarked", desc := "([ILAsleepPass$Marked;I)V" } : Jvm.MethodName)) ∈ GT := mT 778 (by decide +kernel) rfl
theorem wt_779 : (Jvm.Cond.code ({ cls := "AsleepPass$Trails", name := "dropUnmarked", desc := "([ILAsleepPass$Marked;I)V" } : Jvm.MethodName) prog_10_method_3_code (4 : Nat) (Option.none : Option Jvm.ClassFile.FieldType)) ∈ GT := mT 779 (by decide +kernel) rfl
theorem wn_780 : (Jvm.Cond.methodLinkNest "AsleepPass$Trails" (46 : Nat) ({ cls := "AsleepPass$Marked", name := "allows", desc := "(II)Z" } : Jvm.MethodName) "AsleepPass") ∈ NT := mN 780 (by decide +kernel) rfl
theorem wt_782 : (Jvm.Cond.instanceMethod ({ cls := "AsleepPass$Marked", name := "allows", desc := "(II)Z" } : Jvm.MethodName)) ∈ GT := mT 782 (by decide +kernel) rfl
theorem wt_783 : (Jvm.Cond.code ({ cls := "AsleepPass$Marked", name := "allows", desc := "(II)Z" } : Jvm.MethodName) prog_5_method_3_code (4 : Nat) (Option.some Jvm.ClassFile.FieldType.boolean)) ∈ GT := mT 783 (by decide +kernel) rfl
theorem wt_784 : (Jvm.Cond.methodLink "AsleepPass$Trails" (40 : Nat) ({ cls := "AsleepPass$Trails", name := "leadOnward", desc := "(II)V" } : Jvm.MethodName)) ∈ GT := mT 784 (by decide +kernel) rfl
theorem wt_786 : (Jvm.Cond.instanceMethod ({ cls := "AsleepPass$Trails", name := "leadOnward", desc := "(II)V" } : Jvm.MethodName)) ∈ GT := mT 786 (by decide +kernel) rfl
theorem wt_787 : (Jvm.Cond.code ({ cls := "AsleepPass$Trails", name := "leadOnward", desc := "(II)V" } : Jvm.MethodName) prog_10_method_5_code (6 : Nat) (Option.none : Option Jvm.ClassFile.FieldType)) ∈ GT := mT 787 (by decide +kernel) rfl
theorem wt_788 : (Jvm.Cond.methodLink "AsleepPassLaw" (144 : Nat) ({ cls := "AsleepPass", name := "eye", desc := "(I)I" } : Jvm.MethodName)) ∈ GT := mT 788 (by decide +kernel) rfl
theorem wt_789 : (Jvm.Cond.instanceMethod ({ cls := "AsleepPass", name := "eye", desc := "(I)I" } : Jvm.MethodName)) ∈ GT := mT 789 (by decide +kernel) rfl
theorem wt_790 : (Jvm.Cond.selects "AsleepPass" ({ cls := "AsleepPass", name := "eye", desc := "(I)I" } : Jvm.MethodName) ({ cls := "AsleepPass", name := "eye", desc := "(I)I" } : Jvm.MethodName)) ∈ GT := mT 790 (by decide +kernel) rfl
theorem wt_791 : (Jvm.Cond.code ({ cls := "AsleepPass", name := "eye", desc := "(I)I" } : Jvm.MethodName) prog_1_method_34_code (4 : Nat) (Option.some Jvm.ClassFile.FieldType.int)) ∈ GT := mT 791 (by decide +kernel) rfl
theorem wn_792 : (Jvm.Cond.methodLinkNest "AsleepPass" (264 : Nat) ({ cls := "AsleepPass$Trails", name := "canBeBehind", desc := "(II)Z" } : Jvm.MethodName) "AsleepPass") ∈ NT := mN 792 (by decide +kernel) rfl
theorem wt_794 : (Jvm.Cond.instanceMethod ({ cls := "AsleepPass$Trails", name := "canBeBehind", desc := "(II)Z" } : Jvm.MethodName)) ∈ GT := mT 794 (by decide +kernel) rfl
theorem wt_795 : (Jvm.Cond.code ({ cls := "AsleepPass$Trails", name := "canBeBehind", desc := "(II)Z" } : Jvm.MethodName) prog_10_method_6_code (3 : Nat) (Option.some Jvm.ClassFile.FieldType.boolean)) ∈ GT := mT 795 (by decide +kernel) rfl
theorem wt_796 : (Jvm.Cond.methodLink "AsleepPassLaw" (148 : Nat) ({ cls := "AsleepPass", name := "sure", desc := "(I)I" } : Jvm.MethodName)) ∈ GT := mT 796 (by decide +kernel) rfl
theorem wt_797 : (Jvm.Cond.instanceMethod ({ cls := "AsleepPass", name := "sure", desc := "(I)I" } : Jvm.MethodName)) ∈ GT := mT 797 (by decide +kernel) rfl
theorem wt_798 : (Jvm.Cond.selects "AsleepPass" ({ cls := "AsleepPass", name := "sure", desc := "(I)I" } : Jvm.MethodName) ({ cls := "AsleepPass", name := "sure", desc := "(I)I" } : Jvm.MethodName)) ∈ GT := mT 798 (by decide +kernel) rfl
theorem wt_799 : (Jvm.Cond.code ({ cls := "AsleepPass", name := "sure", desc := "(I)I" } : Jvm.MethodName) prog_1_method_35_code (5 : Nat) (Option.some Jvm.ClassFile.FieldType.int)) ∈ GT := mT 799 (by decide +kernel) rfl
theorem wn_800 : (Jvm.Cond.methodLinkNest "AsleepPass" (267 : Nat) ({ cls := "AsleepPass$Trails", name := "falling", desc := "(LAsleepPass$Way;I)I" } : Jvm.MethodName) "AsleepPass") ∈ NT := mN 800 (by decide +kernel) rfl
theorem wt_802 : (Jvm.Cond.instanceMethod ({ cls := "AsleepPass$Trails", name := "falling", desc := "(LAsleepPass$Way;I)I" } : Jvm.MethodName)) ∈ GT := mT 802 (by decide +kernel) rfl
theorem wt_803 : (Jvm.Cond.code ({ cls := "AsleepPass$Trails", name := "falling", desc := "(LAsleepPass$Way;I)I" } : Jvm.MethodName) prog_10_method_7_code (5 : Nat) (Option.some Jvm.ClassFile.FieldType.int)) ∈ GT := mT 803 (by decide +kernel) rfl
theorem wn_804 : (Jvm.Cond.methodLinkNest "AsleepPass" (271 : Nat) ({ cls := "AsleepPass$Trails", name := "rising", desc := "(LAsleepPass$Way;I)I" } : Jvm.MethodName) "AsleepPass") ∈ NT := mN 804 (by decide +kernel) rfl
theorem wt_806 : (Jvm.Cond.instanceMethod ({ cls := "AsleepPass$Trails", name := "rising", desc := "(LAsleepPass$Way;I)I" } : Jvm.MethodName)) ∈ GT := mT 806 (by decide +kernel) rfl
theorem wt_807 : (Jvm.Cond.code ({ cls := "AsleepPass$Trails", name := "rising", desc := "(LAsleepPass$Way;I)I" } : Jvm.MethodName) prog_10_method_8_code (5 : Nat) (Option.some Jvm.ClassFile.FieldType.int)) ∈ GT := mT 807 (by decide +kernel) rfl
theorem wt_808 : (Jvm.Cond.methodLink "AsleepPassLaw" (152 : Nat) ({ cls := "AsleepPass", name := "keep", desc := "(I)I" } : Jvm.MethodName)) ∈ GT := mT 808 (by decide +kernel) rfl
theorem wt_809 : (Jvm.Cond.instanceMethod ({ cls := "AsleepPass", name := "keep", desc := "(I)I" } : Jvm.MethodName)) ∈ GT := mT 809 (by decide +kernel) rfl
theorem wt_810 : (Jvm.Cond.selects "AsleepPass" ({ cls := "AsleepPass", name := "keep", desc := "(I)I" } : Jvm.MethodName) ({ cls := "AsleepPass", name := "keep", desc := "(I)I" } : Jvm.MethodName)) ∈ GT := mT 810 (by decide +kernel) rfl
theorem wt_811 : (Jvm.Cond.code ({ cls := "AsleepPass", name := "keep", desc := "(I)I" } : Jvm.MethodName) prog_1_method_36_code (3 : Nat) (Option.some Jvm.ClassFile.FieldType.int)) ∈ GT := mT 811 (by decide +kernel) rfl
theorem wt_812 : (Jvm.Cond.methodLink "AsleepPass" (274 : Nat) ({ cls := "AsleepPass", name := "isImage", desc := "(I)Z" } : Jvm.MethodName)) ∈ GT := mT 812 (by decide +kernel) rfl
theorem wt_813 : (Jvm.Cond.static ({ cls := "AsleepPass", name := "isImage", desc := "(I)Z" } : Jvm.MethodName)) ∈ GT := mT 813 (by decide +kernel) rfl
theorem wt_814 : (Jvm.Cond.code ({ cls := "AsleepPass", name := "isImage", desc := "(I)Z" } : Jvm.MethodName) prog_1_method_46_code (1 : Nat) (Option.some Jvm.ClassFile.FieldType.boolean)) ∈ GT := mT 814 (by decide +kernel) rfl
theorem wt_815 : (Jvm.Cond.methodLink "AsleepPassLaw" (156 : Nat) ({ cls := "AsleepPass", name := "back", desc := "(I)I" } : Jvm.MethodName)) ∈ GT := mT 815 (by decide +kernel) rfl
theorem wt_816 : (Jvm.Cond.instanceMethod ({ cls := "AsleepPass", name := "back", desc := "(I)I" } : Jvm.MethodName)) ∈ GT := mT 816 (by decide +kernel) rfl
theorem wt_817 : (Jvm.Cond.selects "AsleepPass" ({ cls := "AsleepPass", name := "back", desc := "(I)I" } : Jvm.MethodName) ({ cls := "AsleepPass", name := "back", desc := "(I)I" } : Jvm.MethodName)) ∈ GT := mT 817 (by decide +kernel) rfl
theorem wt_818 : (Jvm.Cond.code ({ cls := "AsleepPass", name := "back", desc := "(I)I" } : Jvm.MethodName) prog_1_method_37_code (2 : Nat) (Option.some Jvm.ClassFile.FieldType.int)) ∈ GT := mT 818 (by decide +kernel) rfl
theorem wt_819 : (Jvm.Cond.methodLink "AsleepPassLaw" (160 : Nat) ({ cls := "AsleepPass", name := "sheet", desc := "(III)I" } : Jvm.MethodName)) ∈ GT := mT 819 (by decide +kernel) rfl
theorem wt_820 : (Jvm.Cond.instanceMethod ({ cls := "AsleepPass", name := "sheet", desc := "(III)I" } : Jvm.MethodName)) ∈ GT := mT 820 (by decide +kernel) rfl
theorem wt_821 : (Jvm.Cond.selects "AsleepPass" ({ cls := "AsleepPass", name := "sheet", desc := "(III)I" } : Jvm.MethodName) ({ cls := "AsleepPass", name := "sheet", desc := "(III)I" } : Jvm.MethodName)) ∈ GT := mT 821 (by decide +kernel) rfl
theorem wt_822 : (Jvm.Cond.code ({ cls := "AsleepPass", name := "sheet", desc := "(III)I" } : Jvm.MethodName) prog_1_method_38_code (4 : Nat) (Option.some Jvm.ClassFile.FieldType.int)) ∈ GT := mT 822 (by decide +kernel) rfl
theorem wn_823 : (Jvm.Cond.methodLinkNest "AsleepPass" (277 : Nat) ({ cls := "AsleepPass$Sheets", name := "isSheet", desc := "(I)Z" } : Jvm.MethodName) "AsleepPass") ∈ NT := mN 823 (by decide +kernel) rfl
theorem wt_824 : (Jvm.Cond.static ({ cls := "AsleepPass$Sheets", name := "isSheet", desc := "(I)Z" } : Jvm.MethodName)) ∈ GT := mT 824 (by decide +kernel) rfl
theorem wt_825 : (Jvm.Cond.code ({ cls := "AsleepPass$Sheets", name := "isSheet", desc := "(I)Z" } : Jvm.MethodName) prog_8_method_2_code (1 : Nat) (Option.some Jvm.ClassFile.FieldType.boolean)) ∈ GT := mT 825 (by decide +kernel) rfl
theorem wn_826 : (Jvm.Cond.methodLinkNest "AsleepPass" (280 : Nat) ({ cls := "AsleepPass$Sheets", name := "isLane", desc := "(I)Z" } : Jvm.MethodName) "AsleepPass") ∈ NT := mN 826 (by decide +kernel) rfl
theorem wt_827 : (Jvm.Cond.static ({ cls := "AsleepPass$Sheets", name := "isLane", desc := "(I)Z" } : Jvm.MethodName)) ∈ GT := mT 827 (by decide +kernel) rfl
theorem wt_828 : (Jvm.Cond.code ({ cls := "AsleepPass$Sheets", name := "isLane", desc := "(I)Z" } : Jvm.MethodName) prog_8_method_3_code (1 : Nat) (Option.some Jvm.ClassFile.FieldType.boolean)) ∈ GT := mT 828 (by decide +kernel) rfl
theorem wn_829 : (Jvm.Cond.methodLinkNest "AsleepPass" (283 : Nat) ({ cls := "AsleepPass$Sheets", name := "renew", desc := "(III)V" } : Jvm.MethodName) "AsleepPass") ∈ NT := mN 829 (by decide +kernel) rfl
theorem wt_831 : (Jvm.Cond.instanceMethod ({ cls := "AsleepPass$Sheets", name := "renew", desc := "(III)V" } : Jvm.MethodName)) ∈ GT := mT 831 (by decide +kernel) rfl
theorem wt_832 : (Jvm.Cond.code ({ cls := "AsleepPass$Sheets", name := "renew", desc := "(III)V" } : Jvm.MethodName) prog_8_method_4_code (5 : Nat) (Option.none : Option Jvm.ClassFile.FieldType)) ∈ GT := mT 832 (by decide +kernel) rfl
theorem wt_833 : (Jvm.Cond.methodLink "AsleepPass$Sheets" (29 : Nat) ({ cls := "AsleepPass$Sheets", name := "isSheet", desc := "(I)Z" } : Jvm.MethodName)) ∈ GT := mT 833 (by decide +kernel) rfl
theorem wt_834 : (Jvm.Cond.methodLink "AsleepPassLaw" (164 : Nat) ({ cls := "AsleepPass", name := "lay", desc := "(III)I" } : Jvm.MethodName)) ∈ GT := mT 834 (by decide +kernel) rfl
theorem wt_835 : (Jvm.Cond.instanceMethod ({ cls := "AsleepPass", name := "lay", desc := "(III)I" } : Jvm.MethodName)) ∈ GT := mT 835 (by decide +kernel) rfl
theorem wt_836 : (Jvm.Cond.selects "AsleepPass" ({ cls := "AsleepPass", name := "lay", desc := "(III)I" } : Jvm.MethodName) ({ cls := "AsleepPass", name := "lay", desc := "(III)I" } : Jvm.MethodName)) ∈ GT := mT 836 (by decide +kernel) rfl
theorem wt_837 : (Jvm.Cond.code ({ cls := "AsleepPass", name := "lay", desc := "(III)I" } : Jvm.MethodName) prog_1_method_39_code (5 : Nat) (Option.some Jvm.ClassFile.FieldType.int)) ∈ GT := mT 837 (by decide +kernel) rfl
theorem wn_838 : (Jvm.Cond.methodLinkNest "AsleepPass" (287 : Nat) ({ cls := "AsleepPass$Sheets", name := "faultAt", desc := "(IJ)I" } : Jvm.MethodName) "AsleepPass") ∈ NT := mN 838 (by decide +kernel) rfl
theorem wt_840 : (Jvm.Cond.instanceMethod ({ cls := "AsleepPass$Sheets", name := "faultAt", desc := "(IJ)I" } : Jvm.MethodName)) ∈ GT := mT 840 (by decide +kernel) rfl
theorem wt_841 : (Jvm.Cond.code ({ cls := "AsleepPass$Sheets", name := "faultAt", desc := "(IJ)I" } : Jvm.MethodName) prog_8_method_6_code (4 : Nat) (Option.some Jvm.ClassFile.FieldType.int)) ∈ GT := mT 841 (by decide +kernel) rfl
theorem wn_842 : (Jvm.Cond.methodLinkNest "AsleepPass" (291 : Nat) ({ cls := "AsleepPass$Sheets", name := "fill", desc := "(III)V" } : Jvm.MethodName) "AsleepPass") ∈ NT := mN 842 (by decide +kernel) rfl
theorem wt_844 : (Jvm.Cond.instanceMethod ({ cls := "AsleepPass$Sheets", name := "fill", desc := "(III)V" } : Jvm.MethodName)) ∈ GT := mT 844 (by decide +kernel) rfl
theorem wt_845 : (Jvm.Cond.code ({ cls := "AsleepPass$Sheets", name := "fill", desc := "(III)V" } : Jvm.MethodName) prog_8_method_7_code (4 : Nat) (Option.none : Option Jvm.ClassFile.FieldType)) ∈ GT := mT 845 (by decide +kernel) rfl
theorem wt_846 : (Jvm.Cond.methodLink "AsleepPass$Sheets" (33 : Nat) ({ cls := "AsleepPass$Sheets", name := "faultAt", desc := "(IJ)I" } : Jvm.MethodName)) ∈ GT := mT 846 (by decide +kernel) rfl
theorem wt_847 : (Jvm.Cond.methodLink "AsleepPassLaw" (168 : Nat) ({ cls := "AsleepPass", name := "read", desc := "(IIII)I" } : Jvm.MethodName)) ∈ GT := mT 847 (by decide +kernel) rfl
theorem wt_848 : (Jvm.Cond.instanceMethod ({ cls := "AsleepPass", name := "read", desc := "(IIII)I" } : Jvm.MethodName)) ∈ GT := mT 848 (by decide +kernel) rfl
theorem wt_849 : (Jvm.Cond.selects "AsleepPass" ({ cls := "AsleepPass", name := "read", desc := "(IIII)I" } : Jvm.MethodName) ({ cls := "AsleepPass", name := "read", desc := "(IIII)I" } : Jvm.MethodName)) ∈ GT := mT 849 (by decide +kernel) rfl
theorem wt_850 : (Jvm.Cond.code ({ cls := "AsleepPass", name := "read", desc := "(IIII)I" } : Jvm.MethodName) prog_1_method_40_code (6 : Nat) (Option.some Jvm.ClassFile.FieldType.int)) ∈ GT := mT 850 (by decide +kernel) rfl
theorem wn_851 : (Jvm.Cond.methodLinkNest "AsleepPass" (294 : Nat) ({ cls := "AsleepPass$Sheets", name := "takePairs", desc := "(IIII)V" } : Jvm.MethodName) "AsleepPass") ∈ NT := mN 851 (by decide +kernel) rfl
theorem wt_853 : (Jvm.Cond.instanceMethod ({ cls := "AsleepPass$Sheets", name := "takePairs", desc := "(IIII)V" } : Jvm.MethodName)) ∈ GT := mT 853 (by decide +kernel) rfl
theorem wt_854 : (Jvm.Cond.code ({ cls := "AsleepPass$Sheets", name := "takePairs", desc := "(IIII)V" } : Jvm.MethodName) prog_8_method_8_code (8 : Nat) (Option.none : Option Jvm.ClassFile.FieldType)) ∈ GT := mT 854 (by decide +kernel) rfl
theorem wt_855 : (Jvm.Cond.constantLong "AsleepPass$Sheets" (44 : Nat) (2 : Int64)) ∈ GT := mT 855 (by decide +kernel) rfl
theorem wt_856 : (Jvm.Cond.methodLink "AsleepPassLaw" (172 : Nat) ({ cls := "AsleepPass", name := "torn", desc := "()I" } : Jvm.MethodName)) ∈ GT := mT 856 (by decide +kernel) rfl
theorem wt_857 : (Jvm.Cond.instanceMethod ({ cls := "AsleepPass", name := "torn", desc := "()I" } : Jvm.MethodName)) ∈ GT := mT 857 (by decide +kernel) rfl
theorem wt_858 : (Jvm.Cond.selects "AsleepPass" ({ cls := "AsleepPass", name := "torn", desc := "()I" } : Jvm.MethodName) ({ cls := "AsleepPass", name := "torn", desc := "()I" } : Jvm.MethodName)) ∈ GT := mT 858 (by decide +kernel) rfl
theorem wt_859 : (Jvm.Cond.code ({ cls := "AsleepPass", name := "torn", desc := "()I" } : Jvm.MethodName) prog_1_method_41_code (1 : Nat) (Option.some Jvm.ClassFile.FieldType.int)) ∈ GT := mT 859 (by decide +kernel) rfl
theorem wt_860 : (Jvm.Cond.methodLink "AsleepPassLaw" (176 : Nat) ({ cls := "AsleepPass", name := "count", desc := "(I)I" } : Jvm.MethodName)) ∈ GT := mT 860 (by decide +kernel) rfl
theorem wt_861 : (Jvm.Cond.instanceMethod ({ cls := "AsleepPass", name := "count", desc := "(I)I" } : Jvm.MethodName)) ∈ GT := mT 861 (by decide +kernel) rfl
theorem wt_862 : (Jvm.Cond.selects "AsleepPass" ({ cls := "AsleepPass", name := "count", desc := "(I)I" } : Jvm.MethodName) ({ cls := "AsleepPass", name := "count", desc := "(I)I" } : Jvm.MethodName)) ∈ GT := mT 862 (by decide +kernel) rfl
theorem wt_863 : (Jvm.Cond.code ({ cls := "AsleepPass", name := "count", desc := "(I)I" } : Jvm.MethodName) prog_1_method_42_code (2 : Nat) (Option.some Jvm.ClassFile.FieldType.int)) ∈ GT := mT 863 (by decide +kernel) rfl
theorem wn_864 : (Jvm.Cond.methodLinkNest "AsleepPass" (311 : Nat) ({ cls := "AsleepPass$Sheets", name := "sizeOf", desc := "(I)I" } : Jvm.MethodName) "AsleepPass") ∈ NT := mN 864 (by decide +kernel) rfl
theorem wt_866 : (Jvm.Cond.instanceMethod ({ cls := "AsleepPass$Sheets", name := "sizeOf", desc := "(I)I" } : Jvm.MethodName)) ∈ GT := mT 866 (by decide +kernel) rfl
theorem wt_867 : (Jvm.Cond.code ({ cls := "AsleepPass$Sheets", name := "sizeOf", desc := "(I)I" } : Jvm.MethodName) prog_8_method_5_code (2 : Nat) (Option.some Jvm.ClassFile.FieldType.int)) ∈ GT := mT 867 (by decide +kernel) rfl
theorem wn_868 : (Jvm.Cond.methodLinkNest "AsleepPass" (314 : Nat) ({ cls := "AsleepPass$Way", name := "handOvers", desc := "()I" } : Jvm.MethodName) "AsleepPass") ∈ NT := mN 868 (by decide +kernel) rfl
theorem wt_870 : (Jvm.Cond.instanceMethod ({ cls := "AsleepPass$Way", name := "handOvers", desc := "()I" } : Jvm.MethodName)) ∈ GT := mT 870 (by decide +kernel) rfl
theorem wt_871 : (Jvm.Cond.code ({ cls := "AsleepPass$Way", name := "handOvers", desc := "()I" } : Jvm.MethodName) prog_11_method_15_code (3 : Nat) (Option.some Jvm.ClassFile.FieldType.int)) ∈ GT := mT 871 (by decide +kernel) rfl
theorem wt_872 : (Jvm.Cond.classLink "AsleepPassLaw" (10 : Nat) "AsleepPassModel") ∈ GT := mT 872 (by decide +kernel) rfl
theorem wt_873 : (Jvm.Cond.instantiable "AsleepPassModel" (35 : Nat)) ∈ GT := mT 873 (by decide +kernel) rfl
theorem wt_874 : (Jvm.Cond.methodLink "AsleepPassLaw" (12 : Nat) ({ cls := "AsleepPassModel", name := "<init>", desc := "()V" } : Jvm.MethodName)) ∈ GT := mT 874 (by decide +kernel) rfl
theorem wt_875 : (Jvm.Cond.instanceMethod ({ cls := "AsleepPassModel", name := "<init>", desc := "()V" } : Jvm.MethodName)) ∈ GT := mT 875 (by decide +kernel) rfl
theorem wt_876 : (Jvm.Cond.code ({ cls := "AsleepPassModel", name := "<init>", desc := "()V" } : Jvm.MethodName) prog_13_method_1_code (1 : Nat) (Option.none : Option Jvm.ClassFile.FieldType)) ∈ GT := mT 876 (by decide +kernel) rfl
theorem wt_877 : (Jvm.Cond.methodLink "AsleepPassModel" (1 : Nat) ({ cls := "java/lang/Object", name := "<init>", desc := "()V" } : Jvm.MethodName)) ∈ GT := mT 877 (by decide +kernel) rfl
theorem wt_878 : (Jvm.Cond.fieldLink "AsleepPassModel" (7 : Nat) "AsleepPassModel" "state" "[I") ∈ GT := mT 878 (by decide +kernel) rfl
theorem wt_879 : (Jvm.Cond.fieldLink "AsleepPassModel" (146 : Nat) "AsleepPassModel" "stretchMany" "I") ∈ GT := mT 879 (by decide +kernel) rfl
theorem wt_880 : (Jvm.Cond.fieldLink "AsleepPassModel" (149 : Nat) "AsleepPassModel" "bearerMany" "I") ∈ GT := mT 880 (by decide +kernel) rfl
theorem wt_881 : (Jvm.Cond.fieldLink "AsleepPassModel" (13 : Nat) "AsleepPassModel" "readPage" "[I") ∈ GT := mT 881 (by decide +kernel) rfl
theorem wt_882 : (Jvm.Cond.fieldLink "AsleepPassModel" (116 : Nat) "AsleepPassModel" "readStretches" "I") ∈ GT := mT 882 (by decide +kernel) rfl
theorem wt_883 : (Jvm.Cond.fieldLink "AsleepPassModel" (105 : Nat) "AsleepPassModel" "readBearers" "I") ∈ GT := mT 883 (by decide +kernel) rfl
theorem wt_884 : (Jvm.Cond.fieldLink "AsleepPassModel" (119 : Nat) "AsleepPassModel" "hasStart" "Z") ∈ GT := mT 884 (by decide +kernel) rfl
theorem wt_885 : (Jvm.Cond.fieldLink "AsleepPassModel" (123 : Nat) "AsleepPassModel" "carried" "I") ∈ GT := mT 885 (by decide +kernel) rfl
theorem wt_886 : (Jvm.Cond.fieldLink "AsleepPassModel" (126 : Nat) "AsleepPassModel" "highStretch" "I") ∈ GT := mT 886 (by decide +kernel) rfl
theorem wt_887 : (Jvm.Cond.fieldLink "AsleepPassModel" (129 : Nat) "AsleepPassModel" "highBearer" "I") ∈ GT := mT 887 (by decide +kernel) rfl
theorem wt_888 : (Jvm.Cond.fieldLink "AsleepPassModel" (16 : Nat) "AsleepPassModel" "tape" "[I") ∈ GT := mT 888 (by decide +kernel) rfl
theorem wt_889 : (Jvm.Cond.fieldLink "AsleepPassModel" (60 : Nat) "AsleepPassModel" "taped" "I") ∈ GT := mT 889 (by decide +kernel) rfl
theorem wt_890 : (Jvm.Cond.fieldLink "AsleepPassModel" (143 : Nat) "AsleepPassModel" "fault" "I") ∈ GT := mT 890 (by decide +kernel) rfl
theorem wt_891 : (Jvm.Cond.fieldLink "AsleepPassModel" (68 : Nat) "AsleepPassModel" "broken" "I") ∈ GT := mT 891 (by decide +kernel) rfl
theorem wt_892 : (Jvm.Cond.fieldLink "AsleepPassModel" (74 : Nat) "AsleepPassModel" "brokenAt" "I") ∈ GT := mT 892 (by decide +kernel) rfl
theorem wt_893 : (Jvm.Cond.fieldLink "AsleepPassModel" (80 : Nat) "AsleepPassModel" "spot" "I") ∈ GT := mT 893 (by decide +kernel) rfl
theorem wt_894 : (Jvm.Cond.fieldLink "AsleepPassModel" (71 : Nat) "AsleepPassModel" "here" "I") ∈ GT := mT 894 (by decide +kernel) rfl
theorem wt_895 : (Jvm.Cond.fieldLink "AsleepPassModel" (77 : Nat) "AsleepPassModel" "token" "I") ∈ GT := mT 895 (by decide +kernel) rfl
theorem wt_896 : (Jvm.Cond.fieldLink "AsleepPassModel" (87 : Nat) "AsleepPassModel" "value" "I") ∈ GT := mT 896 (by decide +kernel) rfl
theorem wt_897 : (Jvm.Cond.fieldLink "AsleepPassModel" (19 : Nat) "AsleepPassModel" "cuts" "[I") ∈ GT := mT 897 (by decide +kernel) rfl
theorem wt_898 : (Jvm.Cond.fieldLink "AsleepPassModel" (22 : Nat) "AsleepPassModel" "letters" "[I") ∈ GT := mT 898 (by decide +kernel) rfl
theorem wt_899 : (Jvm.Cond.fieldLink "AsleepPassModel" (25 : Nat) "AsleepPassModel" "odds" "[J") ∈ GT := mT 899 (by decide +kernel) rfl
theorem wt_900 : (Jvm.Cond.fieldLink "AsleepPassModel" (29 : Nat) "AsleepPassModel" "then" "[J") ∈ GT := mT 900 (by decide +kernel) rfl
theorem wt_901 : (Jvm.Cond.fieldLink "AsleepPassModel" (32 : Nat) "AsleepPassModel" "bests" "[J") ∈ GT := mT 901 (by decide +kernel) rfl
theorem wt_902 : (Jvm.Cond.fieldLink "AsleepPassModel" (35 : Nat) "AsleepPassModel" "learnt" "[I") ∈ GT := mT 902 (by decide +kernel) rfl
theorem wt_903 : (Jvm.Cond.fieldLink "AsleepPassModel" (152 : Nat) "AsleepPassModel" "learntMany" "I") ∈ GT := mT 903 (by decide +kernel) rfl
theorem wt_904 : (Jvm.Cond.fieldLink "AsleepPassModel" (38 : Nat) "AsleepPassModel" "marks" "[I") ∈ GT := mT 904 (by decide +kernel) rfl
theorem wt_905 : (Jvm.Cond.fieldLink "AsleepPassModel" (155 : Nat) "AsleepPassModel" "markMany" "I") ∈ GT := mT 905 (by decide +kernel) rfl
theorem wt_906 : (Jvm.Cond.fieldLink "AsleepPassModel" (41 : Nat) "AsleepPassModel" "ahead" "[I") ∈ GT := mT 906 (by decide +kernel) rfl
theorem wt_907 : (Jvm.Cond.fieldLink "AsleepPassModel" (44 : Nat) "AsleepPassModel" "behind" "[I") ∈ GT := mT 907 (by decide +kernel) rfl
theorem wt_908 : (Jvm.Cond.fieldLink "AsleepPassModel" (47 : Nat) "AsleepPassModel" "isKept" "[Z") ∈ GT := mT 908 (by decide +kernel) rfl
theorem wt_909 : (Jvm.Cond.fieldLink "AsleepPassModel" (51 : Nat) "AsleepPassModel" "lanes" "[I") ∈ GT := mT 909 (by decide +kernel) rfl
theorem wt_910 : (Jvm.Cond.fieldLink "AsleepPassModel" (54 : Nat) "AsleepPassModel" "lengths" "[I") ∈ GT := mT 910 (by decide +kernel) rfl
theorem wt_911 : (Jvm.Cond.fieldLink "AsleepPassModel" (57 : Nat) "AsleepPassModel" "cells" "[I") ∈ GT := mT 911 (by decide +kernel) rfl
theorem wt_912 : (Jvm.Cond.fieldLink "AsleepPassModel" (259 : Nat) "AsleepPassModel" "torn" "I") ∈ GT := mT 912 (by decide +kernel) rfl
theorem wt_913 : (Jvm.Cond.laysFinal "AsleepPassModel" "AsleepPassModel" "state" "[I") ∈ GT := mT 913 (by decide +kernel) rfl
theorem wt_915 : (Jvm.Cond.lays "AsleepPassModel" "AsleepPassModel" "stretchMany" "I") ∈ GT := mT 915 (by decide +kernel) rfl
theorem wt_917 : (Jvm.Cond.lays "AsleepPassModel" "AsleepPassModel" "bearerMany" "I") ∈ GT := mT 917 (by decide +kernel) rfl
theorem wt_919 : (Jvm.Cond.laysFinal "AsleepPassModel" "AsleepPassModel" "readPage" "[I") ∈ GT := mT 919 (by decide +kernel) rfl
theorem wt_921 : (Jvm.Cond.lays "AsleepPassModel" "AsleepPassModel" "readStretches" "I") ∈ GT := mT 921 (by decide +kernel) rfl
theorem wt_923 : (Jvm.Cond.lays "AsleepPassModel" "AsleepPassModel" "readBearers" "I") ∈ GT := mT 923 (by decide +kernel) rfl
theorem wt_925 : (Jvm.Cond.lays "AsleepPassModel" "AsleepPassModel" "hasStart" "Z") ∈ GT := mT 925 (by decide +kernel) rfl
theorem wt_927 : (Jvm.Cond.lays "AsleepPassModel" "AsleepPassModel" "carried" "I") ∈ GT := mT 927 (by decide +kernel) rfl
theorem wt_929 : (Jvm.Cond.lays "AsleepPassModel" "AsleepPassModel" "highStretch" "I") ∈ GT := mT 929 (by decide +kernel) rfl
theorem wt_931 : (Jvm.Cond.lays "AsleepPassModel" "AsleepPassModel" "highBearer" "I") ∈ GT := mT 931 (by decide +kernel) rfl
theorem wt_933 : (Jvm.Cond.laysFinal "AsleepPassModel" "AsleepPassModel" "tape" "[I") ∈ GT := mT 933 (by decide +kernel) rfl
theorem wt_935 : (Jvm.Cond.lays "AsleepPassModel" "AsleepPassModel" "taped" "I") ∈ GT := mT 935 (by decide +kernel) rfl
theorem wt_937 : (Jvm.Cond.lays "AsleepPassModel" "AsleepPassModel" "fault" "I") ∈ GT := mT 937 (by decide +kernel) rfl
theorem wt_939 : (Jvm.Cond.lays "AsleepPassModel" "AsleepPassModel" "broken" "I") ∈ GT := mT 939 (by decide +kernel) rfl
theorem wt_941 : (Jvm.Cond.lays "AsleepPassModel" "AsleepPassModel" "brokenAt" "I") ∈ GT := mT 941 (by decide +kernel) rfl
theorem wt_943 : (Jvm.Cond.lays "AsleepPassModel" "AsleepPassModel" "spot" "I") ∈ GT := mT 943 (by decide +kernel) rfl
theorem wt_945 : (Jvm.Cond.lays "AsleepPassModel" "AsleepPassModel" "here" "I") ∈ GT := mT 945 (by decide +kernel) rfl
theorem wt_947 : (Jvm.Cond.lays "AsleepPassModel" "AsleepPassModel" "token" "I") ∈ GT := mT 947 (by decide +kernel) rfl
theorem wt_949 : (Jvm.Cond.lays "AsleepPassModel" "AsleepPassModel" "value" "I") ∈ GT := mT 949 (by decide +kernel) rfl
theorem wt_951 : (Jvm.Cond.laysFinal "AsleepPassModel" "AsleepPassModel" "cuts" "[I") ∈ GT := mT 951 (by decide +kernel) rfl
theorem wt_953 : (Jvm.Cond.laysFinal "AsleepPassModel" "AsleepPassModel" "letters" "[I") ∈ GT := mT 953 (by decide +kernel) rfl
theorem wt_955 : (Jvm.Cond.laysFinal "AsleepPassModel" "AsleepPassModel" "odds" "[J") ∈ GT := mT 955 (by decide +kernel) rfl
theorem wt_957 : (Jvm.Cond.laysFinal "AsleepPassModel" "AsleepPassModel" "then" "[J") ∈ GT := mT 957 (by decide +kernel) rfl
theorem wt_959 : (Jvm.Cond.laysFinal "AsleepPassModel" "AsleepPassModel" "bests" "[J") ∈ GT := mT 959 (by decide +kernel) rfl
theorem wt_961 : (Jvm.Cond.laysFinal "AsleepPassModel" "AsleepPassModel" "learnt" "[I") ∈ GT := mT 961 (by decide +kernel) rfl
theorem wt_963 : (Jvm.Cond.lays "AsleepPassModel" "AsleepPassModel" "learntMany" "I") ∈ GT := mT 963 (by decide +kernel) rfl
theorem wt_965 : (Jvm.Cond.laysFinal "AsleepPassModel" "AsleepPassModel" "marks" "[I") ∈ GT := mT 965 (by decide +kernel) rfl
theorem wt_967 : (Jvm.Cond.lays "AsleepPassModel" "AsleepPassModel" "markMany" "I") ∈ GT := mT 967 (by decide +kernel) rfl
theorem wt_969 : (Jvm.Cond.laysFinal "AsleepPassModel" "AsleepPassModel" "ahead" "[I") ∈ GT := mT 969 (by decide +kernel) rfl
theorem wt_971 : (Jvm.Cond.laysFinal "AsleepPassModel" "AsleepPassModel" "behind" "[I") ∈ GT := mT 971 (by decide +kernel) rfl
theorem wt_973 : (Jvm.Cond.laysFinal "AsleepPassModel" "AsleepPassModel" "isKept" "[Z") ∈ GT := mT 973 (by decide +kernel) rfl
theorem wt_975 : (Jvm.Cond.laysFinal "AsleepPassModel" "AsleepPassModel" "lanes" "[I") ∈ GT := mT 975 (by decide +kernel) rfl
theorem wt_977 : (Jvm.Cond.laysFinal "AsleepPassModel" "AsleepPassModel" "lengths" "[I") ∈ GT := mT 977 (by decide +kernel) rfl
theorem wt_979 : (Jvm.Cond.laysFinal "AsleepPassModel" "AsleepPassModel" "cells" "[I") ∈ GT := mT 979 (by decide +kernel) rfl
theorem wt_981 : (Jvm.Cond.lays "AsleepPassModel" "AsleepPassModel" "torn" "I") ∈ GT := mT 981 (by decide +kernel) rfl
theorem wt_984 : (Jvm.Cond.methodLink "AsleepPassLaw" (19 : Nat) ({ cls := "AsleepPassModel", name := "feed", desc := "(J)I" } : Jvm.MethodName)) ∈ GT := mT 984 (by decide +kernel) rfl
theorem wt_985 : (Jvm.Cond.instanceMethod ({ cls := "AsleepPassModel", name := "feed", desc := "(J)I" } : Jvm.MethodName)) ∈ GT := mT 985 (by decide +kernel) rfl
theorem wt_986 : (Jvm.Cond.selects "AsleepPassModel" ({ cls := "AsleepPassModel", name := "feed", desc := "(J)I" } : Jvm.MethodName) ({ cls := "AsleepPassModel", name := "feed", desc := "(J)I" } : Jvm.MethodName)) ∈ GT := mT 986 (by decide +kernel) rfl
theorem wt_987 : (Jvm.Cond.code ({ cls := "AsleepPassModel", name := "feed", desc := "(J)I" } : Jvm.MethodName) prog_13_method_4_code (4 : Nat) (Option.some Jvm.ClassFile.FieldType.int)) ∈ GT := mT 987 (by decide +kernel) rfl
theorem wt_988 : (Jvm.Cond.methodLink "AsleepPassLaw" (24 : Nat) ({ cls := "AsleepPassModel", name := "end", desc := "(I)I" } : Jvm.MethodName)) ∈ GT := mT 988 (by decide +kernel) rfl
theorem wt_989 : (Jvm.Cond.instanceMethod ({ cls := "AsleepPassModel", name := "end", desc := "(I)I" } : Jvm.MethodName)) ∈ GT := mT 989 (by decide +kernel) rfl
theorem wt_990 : (Jvm.Cond.selects "AsleepPassModel" ({ cls := "AsleepPassModel", name := "end", desc := "(I)I" } : Jvm.MethodName) ({ cls := "AsleepPassModel", name := "end", desc := "(I)I" } : Jvm.MethodName)) ∈ GT := mT 990 (by decide +kernel) rfl
theorem wt_991 : (Jvm.Cond.code ({ cls := "AsleepPassModel", name := "end", desc := "(I)I" } : Jvm.MethodName) prog_13_method_5_code (3 : Nat) (Option.some Jvm.ClassFile.FieldType.int)) ∈ GT := mT 991 (by decide +kernel) rfl
theorem wt_992 : (Jvm.Cond.methodLink "AsleepPassModel" (64 : Nat) ({ cls := "AsleepPassModel", name := "in", desc := "(JJJ)Z" } : Jvm.MethodName)) ∈ GT := mT 992 (by decide +kernel) rfl
theorem wt_993 : (Jvm.Cond.static ({ cls := "AsleepPassModel", name := "in", desc := "(JJJ)Z" } : Jvm.MethodName)) ∈ GT := mT 993 (by decide +kernel) rfl
theorem wt_994 : (Jvm.Cond.code ({ cls := "AsleepPassModel", name := "in", desc := "(JJJ)Z" } : Jvm.MethodName) prog_13_method_3_code (6 : Nat) (Option.some Jvm.ClassFile.FieldType.boolean)) ∈ GT := mT 994 (by decide +kernel) rfl
theorem wt_995 : (Jvm.Cond.methodLink "AsleepPassLaw" (29 : Nat) ({ cls := "AsleepPassModel", name := "text", desc := "()I" } : Jvm.MethodName)) ∈ GT := mT 995 (by decide +kernel) rfl
theorem wt_996 : (Jvm.Cond.instanceMethod ({ cls := "AsleepPassModel", name := "text", desc := "()I" } : Jvm.MethodName)) ∈ GT := mT 996 (by decide +kernel) rfl
theorem wt_997 : (Jvm.Cond.selects "AsleepPassModel" ({ cls := "AsleepPassModel", name := "text", desc := "()I" } : Jvm.MethodName) ({ cls := "AsleepPassModel", name := "text", desc := "()I" } : Jvm.MethodName)) ∈ GT := mT 997 (by decide +kernel) rfl
theorem wt_998 : (Jvm.Cond.code ({ cls := "AsleepPassModel", name := "text", desc := "()I" } : Jvm.MethodName) prog_13_method_14_code (3 : Nat) (Option.some Jvm.ClassFile.FieldType.int)) ∈ GT := mT 998 (by decide +kernel) rfl
theorem wt_999 : (Jvm.Cond.methodLink "AsleepPassModel" (102 : Nat) ({ cls := "AsleepPassModel", name := "goesOn", desc := "()V" } : Jvm.MethodName)) ∈ GT := mT 999 (by decide +kernel) rfl
theorem wt_1001 : (Jvm.Cond.instanceMethod ({ cls := "AsleepPassModel", name := "goesOn", desc := "()V" } : Jvm.MethodName)) ∈ GT := mT 1001 (by decide +kernel) rfl
theorem wt_1002 : (Jvm.Cond.code ({ cls := "AsleepPassModel", name := "goesOn", desc := "()V" } : Jvm.MethodName) prog_13_method_9_code (2 : Nat) (Option.none : Option Jvm.ClassFile.FieldType)) ∈ GT := mT 1002 (by decide +kernel) rfl
theorem wt_1003 : (Jvm.Cond.methodLink "AsleepPassModel" (83 : Nat) ({ cls := "AsleepPassModel", name := "byteAt", desc := "(I)I" } : Jvm.MethodName)) ∈ GT := mT 1003 (by decide +kernel) rfl
theorem wt_1005 : (Jvm.Cond.instanceMethod ({ cls := "AsleepPassModel", name := "byteAt", desc := "(I)I" } : Jvm.MethodName)) ∈ GT := mT 1005 (by decide +kernel) rfl
theorem wt_1006 : (Jvm.Cond.code ({ cls := "AsleepPassModel", name := "byteAt", desc := "(I)I" } : Jvm.MethodName) prog_13_method_6_code (2 : Nat) (Option.some Jvm.ClassFile.FieldType.int)) ∈ GT := mT 1006 (by decide +kernel) rfl
theorem wt_1007 : (Jvm.Cond.constantLong "AsleepPassModel" (90 : Nat) (97 : Int64)) ∈ GT := mT 1007 (by decide +kernel) rfl
theorem wt_1008 : (Jvm.Cond.constantLong "AsleepPassModel" (92 : Nat) (122 : Int64)) ∈ GT := mT 1008 (by decide +kernel) rfl
theorem wt_1009 : (Jvm.Cond.constantLong "AsleepPassModel" (94 : Nat) (48 : Int64)) ∈ GT := mT 1009 (by decide +kernel) rfl
theorem wt_1010 : (Jvm.Cond.constantLong "AsleepPassModel" (96 : Nat) (57 : Int64)) ∈ GT := mT 1010 (by decide +kernel) rfl
theorem wt_1011 : (Jvm.Cond.methodLink "AsleepPassModel" (98 : Nat) ({ cls := "AsleepPassModel", name := "fails", desc := "(I)V" } : Jvm.MethodName)) ∈ GT := mT 1011 (by decide +kernel) rfl
theorem wt_1013 : (Jvm.Cond.instanceMethod ({ cls := "AsleepPassModel", name := "fails", desc := "(I)V" } : Jvm.MethodName)) ∈ GT := mT 1013 (by decide +kernel) rfl
theorem wt_1014 : (Jvm.Cond.code ({ cls := "AsleepPassModel", name := "fails", desc := "(I)V" } : Jvm.MethodName) prog_13_method_7_code (2 : Nat) (Option.none : Option Jvm.ClassFile.FieldType)) ∈ GT := mT 1014 (by decide +kernel) rfl
theorem wt_1015 : (Jvm.Cond.methodLink "AsleepPassModel" (140 : Nat) ({ cls := "AsleepPassModel", name := "readLine", desc := "()V" } : Jvm.MethodName)) ∈ GT := mT 1015 (by decide +kernel) rfl
theorem wt_1017 : (Jvm.Cond.instanceMethod ({ cls := "AsleepPassModel", name := "readLine", desc := "()V" } : Jvm.MethodName)) ∈ GT := mT 1017 (by decide +kernel) rfl
theorem wt_1018 : (Jvm.Cond.code ({ cls := "AsleepPassModel", name := "readLine", desc := "()V" } : Jvm.MethodName) prog_13_method_13_code (2 : Nat) (Option.none : Option Jvm.ClassFile.FieldType)) ∈ GT := mT 1018 (by decide +kernel) rfl
theorem wt_1019 : (Jvm.Cond.methodLink "AsleepPassModel" (108 : Nat) ({ cls := "AsleepPassModel", name := "nameHere", desc := "()I" } : Jvm.MethodName)) ∈ GT := mT 1019 (by decide +kernel) rfl
theorem wt_1021 : (Jvm.Cond.instanceMethod ({ cls := "AsleepPassModel", name := "nameHere", desc := "()I" } : Jvm.MethodName)) ∈ GT := mT 1021 (by decide +kernel) rfl
theorem wt_1022 : (Jvm.Cond.code ({ cls := "AsleepPassModel", name := "nameHere", desc := "()I" } : Jvm.MethodName) prog_13_method_8_code (4 : Nat) (Option.some Jvm.ClassFile.FieldType.int)) ∈ GT := mT 1022 (by decide +kernel) rfl
theorem wt_1023 : (Jvm.Cond.constantLong "AsleepPassModel" (132 : Nat) (3 : Int64)) ∈ GT := mT 1023 (by decide +kernel) rfl
theorem wt_1024 : (Jvm.Cond.methodLink "AsleepPassModel" (134 : Nat) ({ cls := "AsleepPassModel", name := "readBearer", desc := "()V" } : Jvm.MethodName)) ∈ GT := mT 1024 (by decide +kernel) rfl
theorem wt_1026 : (Jvm.Cond.instanceMethod ({ cls := "AsleepPassModel", name := "readBearer", desc := "()V" } : Jvm.MethodName)) ∈ GT := mT 1026 (by decide +kernel) rfl
theorem wt_1027 : (Jvm.Cond.code ({ cls := "AsleepPassModel", name := "readBearer", desc := "()V" } : Jvm.MethodName) prog_13_method_11_code (3 : Nat) (Option.none : Option Jvm.ClassFile.FieldType)) ∈ GT := mT 1027 (by decide +kernel) rfl
theorem wt_1028 : (Jvm.Cond.methodLink "AsleepPassModel" (112 : Nat) ({ cls := "AsleepPassModel", name := "other", desc := "(III)I" } : Jvm.MethodName)) ∈ GT := mT 1028 (by decide +kernel) rfl
theorem wt_1030 : (Jvm.Cond.instanceMethod ({ cls := "AsleepPassModel", name := "other", desc := "(III)I" } : Jvm.MethodName)) ∈ GT := mT 1030 (by decide +kernel) rfl
theorem wt_1031 : (Jvm.Cond.code ({ cls := "AsleepPassModel", name := "other", desc := "(III)I" } : Jvm.MethodName) prog_13_method_10_code (5 : Nat) (Option.some Jvm.ClassFile.FieldType.int)) ∈ GT := mT 1031 (by decide +kernel) rfl
theorem wt_1032 : (Jvm.Cond.methodLink "AsleepPassModel" (137 : Nat) ({ cls := "AsleepPassModel", name := "readMore", desc := "(I)V" } : Jvm.MethodName)) ∈ GT := mT 1032 (by decide +kernel) rfl
theorem wt_1034 : (Jvm.Cond.instanceMethod ({ cls := "AsleepPassModel", name := "readMore", desc := "(I)V" } : Jvm.MethodName)) ∈ GT := mT 1034 (by decide +kernel) rfl
theorem wt_1035 : (Jvm.Cond.code ({ cls := "AsleepPassModel", name := "readMore", desc := "(I)V" } : Jvm.MethodName) prog_13_method_12_code (4 : Nat) (Option.none : Option Jvm.ClassFile.FieldType)) ∈ GT := mT 1035 (by decide +kernel) rfl
theorem wt_1036 : (Jvm.Cond.methodLink "AsleepPassLaw" (33 : Nat) ({ cls := "AsleepPassModel", name := "fault", desc := "()I" } : Jvm.MethodName)) ∈ GT := mT 1036 (by decide +kernel) rfl
theorem wt_1037 : (Jvm.Cond.instanceMethod ({ cls := "AsleepPassModel", name := "fault", desc := "()I" } : Jvm.MethodName)) ∈ GT := mT 1037 (by decide +kernel) rfl
theorem wt_1038 : (Jvm.Cond.selects "AsleepPassModel" ({ cls := "AsleepPassModel", name := "fault", desc := "()I" } : Jvm.MethodName) ({ cls := "AsleepPassModel", name := "fault", desc := "()I" } : Jvm.MethodName)) ∈ GT := mT 1038 (by decide +kernel) rfl
theorem wt_1039 : (Jvm.Cond.code ({ cls := "AsleepPassModel", name := "fault", desc := "()I" } : Jvm.MethodName) prog_13_method_15_code (1 : Nat) (Option.some Jvm.ClassFile.FieldType.int)) ∈ GT := mT 1039 (by decide +kernel) rfl
theorem wt_1040 : (Jvm.Cond.methodLink "AsleepPassLaw" (37 : Nat) ({ cls := "AsleepPassModel", name := "rule", desc := "(I)I" } : Jvm.MethodName)) ∈ GT := mT 1040 (by decide +kernel) rfl
theorem wt_1041 : (Jvm.Cond.instanceMethod ({ cls := "AsleepPassModel", name := "rule", desc := "(I)I" } : Jvm.MethodName)) ∈ GT := mT 1041 (by decide +kernel) rfl
theorem wt_1042 : (Jvm.Cond.selects "AsleepPassModel" ({ cls := "AsleepPassModel", name := "rule", desc := "(I)I" } : Jvm.MethodName) ({ cls := "AsleepPassModel", name := "rule", desc := "(I)I" } : Jvm.MethodName)) ∈ GT := mT 1042 (by decide +kernel) rfl
theorem wt_1043 : (Jvm.Cond.code ({ cls := "AsleepPassModel", name := "rule", desc := "(I)I" } : Jvm.MethodName) prog_13_method_19_code (2 : Nat) (Option.some Jvm.ClassFile.FieldType.int)) ∈ GT := mT 1043 (by decide +kernel) rfl
theorem wt_1044 : (Jvm.Cond.methodLink "AsleepPassModel" (158 : Nat) ({ cls := "AsleepPassModel", name := "startNow", desc := "()I" } : Jvm.MethodName)) ∈ GT := mT 1044 (by decide +kernel) rfl
theorem wt_1046 : (Jvm.Cond.instanceMethod ({ cls := "AsleepPassModel", name := "startNow", desc := "()I" } : Jvm.MethodName)) ∈ GT := mT 1046 (by decide +kernel) rfl
theorem wt_1047 : (Jvm.Cond.code ({ cls := "AsleepPassModel", name := "startNow", desc := "()I" } : Jvm.MethodName) prog_13_method_18_code (1 : Nat) (Option.some Jvm.ClassFile.FieldType.int)) ∈ GT := mT 1047 (by decide +kernel) rfl
theorem wt_1048 : (Jvm.Cond.methodLink "AsleepPassLaw" (42 : Nat) ({ cls := "AsleepPassModel", name := "stretch", desc := "(II)I" } : Jvm.MethodName)) ∈ GT := mT 1048 (by decide +kernel) rfl
theorem wt_1049 : (Jvm.Cond.instanceMethod ({ cls := "AsleepPassModel", name := "stretch", desc := "(II)I" } : Jvm.MethodName)) ∈ GT := mT 1049 (by decide +kernel) rfl
theorem wt_1050 : (Jvm.Cond.selects "AsleepPassModel" ({ cls := "AsleepPassModel", name := "stretch", desc := "(II)I" } : Jvm.MethodName) ({ cls := "AsleepPassModel", name := "stretch", desc := "(II)I" } : Jvm.MethodName)) ∈ GT := mT 1050 (by decide +kernel) rfl
theorem wt_1051 : (Jvm.Cond.code ({ cls := "AsleepPassModel", name := "stretch", desc := "(II)I" } : Jvm.MethodName) prog_13_method_20_code (3 : Nat) (Option.some Jvm.ClassFile.FieldType.int)) ∈ GT := mT 1051 (by decide +kernel) rfl
theorem wt_1052 : (Jvm.Cond.methodLink "AsleepPassModel" (161 : Nat) ({ cls := "AsleepPassModel", name := "isStretch", desc := "(I)Z" } : Jvm.MethodName)) ∈ GT := mT 1052 (by decide +kernel) rfl
theorem wt_1054 : (Jvm.Cond.instanceMethod ({ cls := "AsleepPassModel", name := "isStretch", desc := "(I)Z" } : Jvm.MethodName)) ∈ GT := mT 1054 (by decide +kernel) rfl
theorem wt_1055 : (Jvm.Cond.code ({ cls := "AsleepPassModel", name := "isStretch", desc := "(I)Z" } : Jvm.MethodName) prog_13_method_16_code (2 : Nat) (Option.some Jvm.ClassFile.FieldType.boolean)) ∈ GT := mT 1055 (by decide +kernel) rfl
theorem wt_1056 : (Jvm.Cond.constantLong "AsleepPassModel" (165 : Nat) (2 : Int64)) ∈ GT := mT 1056 (by decide +kernel) rfl
theorem wt_1057 : (Jvm.Cond.methodLink "AsleepPassLaw" (46 : Nat) ({ cls := "AsleepPassModel", name := "bearer", desc := "(II)I" } : Jvm.MethodName)) ∈ GT := mT 1057 (by decide +kernel) rfl
theorem wt_1058 : (Jvm.Cond.instanceMethod ({ cls := "AsleepPassModel", name := "bearer", desc := "(II)I" } : Jvm.MethodName)) ∈ GT := mT 1058 (by decide +kernel) rfl
theorem wt_1059 : (Jvm.Cond.selects "AsleepPassModel" ({ cls := "AsleepPassModel", name := "bearer", desc := "(II)I" } : Jvm.MethodName) ({ cls := "AsleepPassModel", name := "bearer", desc := "(II)I" } : Jvm.MethodName)) ∈ GT := mT 1059 (by decide +kernel) rfl
theorem wt_1060 : (Jvm.Cond.code ({ cls := "AsleepPassModel", name := "bearer", desc := "(II)I" } : Jvm.MethodName) prog_13_method_21_code (3 : Nat) (Option.some Jvm.ClassFile.FieldType.int)) ∈ GT := mT 1060 (by decide +kernel) rfl
theorem wt_1061 : (Jvm.Cond.methodLink "AsleepPassModel" (167 : Nat) ({ cls := "AsleepPassModel", name := "isBearer", desc := "(I)Z" } : Jvm.MethodName)) ∈ GT := mT 1061 (by decide +kernel) rfl
theorem wt_1063 : (Jvm.Cond.instanceMethod ({ cls := "AsleepPassModel", name := "isBearer", desc := "(I)Z" } : Jvm.MethodName)) ∈ GT := mT 1063 (by decide +kernel) rfl
theorem wt_1064 : (Jvm.Cond.code ({ cls := "AsleepPassModel", name := "isBearer", desc := "(I)Z" } : Jvm.MethodName) prog_13_method_17_code (2 : Nat) (Option.some Jvm.ClassFile.FieldType.boolean)) ∈ GT := mT 1064 (by decide +kernel) rfl
theorem wt_1065 : (Jvm.Cond.methodLink "AsleepPassLaw" (50 : Nat) ({ cls := "AsleepPassModel", name := "start", desc := "(I)I" } : Jvm.MethodName)) ∈ GT := mT 1065 (by decide +kernel) rfl
theorem wt_1066 : (Jvm.Cond.instanceMethod ({ cls := "AsleepPassModel", name := "start", desc := "(I)I" } : Jvm.MethodName)) ∈ GT := mT 1066 (by decide +kernel) rfl
theorem wt_1067 : (Jvm.Cond.selects "AsleepPassModel" ({ cls := "AsleepPassModel", name := "start", desc := "(I)I" } : Jvm.MethodName) ({ cls := "AsleepPassModel", name := "start", desc := "(I)I" } : Jvm.MethodName)) ∈ GT := mT 1067 (by decide +kernel) rfl
theorem wt_1068 : (Jvm.Cond.code ({ cls := "AsleepPassModel", name := "start", desc := "(I)I" } : Jvm.MethodName) prog_13_method_23_code (2 : Nat) (Option.some Jvm.ClassFile.FieldType.int)) ∈ GT := mT 1068 (by decide +kernel) rfl
theorem wt_1069 : (Jvm.Cond.constantLong "AsleepPassModel" (170 : Nat) (9 : Int64)) ∈ GT := mT 1069 (by decide +kernel) rfl
theorem wt_1070 : (Jvm.Cond.methodLink "AsleepPassModel" (172 : Nat) ({ cls := "AsleepPassModel", name := "sets", desc := "(ZII)I" } : Jvm.MethodName)) ∈ GT := mT 1070 (by decide +kernel) rfl
theorem wt_1072 : (Jvm.Cond.instanceMethod ({ cls := "AsleepPassModel", name := "sets", desc := "(ZII)I" } : Jvm.MethodName)) ∈ GT := mT 1072 (by decide +kernel) rfl
theorem wt_1073 : (Jvm.Cond.code ({ cls := "AsleepPassModel", name := "sets", desc := "(ZII)I" } : Jvm.MethodName) prog_13_method_22_code (5 : Nat) (Option.some Jvm.ClassFile.FieldType.int)) ∈ GT := mT 1073 (by decide +kernel) rfl
theorem wt_1074 : (Jvm.Cond.methodLink "AsleepPassLaw" (54 : Nat) ({ cls := "AsleepPassModel", name := "noise", desc := "(II)I" } : Jvm.MethodName)) ∈ GT := mT 1074 (by decide +kernel) rfl
theorem wt_1075 : (Jvm.Cond.instanceMethod ({ cls := "AsleepPassModel", name := "noise", desc := "(II)I" } : Jvm.MethodName)) ∈ GT := mT 1075 (by decide +kernel) rfl
theorem wt_1076 : (Jvm.Cond.selects "AsleepPassModel" ({ cls := "AsleepPassModel", name := "noise", desc := "(II)I" } : Jvm.MethodName) ({ cls := "AsleepPassModel", name := "noise", desc := "(II)I" } : Jvm.MethodName)) ∈ GT := mT 1076 (by decide +kernel) rfl
theorem wt_1077 : (Jvm.Cond.code ({ cls := "AsleepPassModel", name := "noise", desc := "(II)I" } : Jvm.MethodName) prog_13_method_24_code (3 : Nat) (Option.some Jvm.ClassFile.FieldType.int)) ∈ GT := mT 1077 (by decide +kernel) rfl
theorem wt_1078 : (Jvm.Cond.methodLink "AsleepPassLaw" (58 : Nat) ({ cls := "AsleepPassModel", name := "cold", desc := "(II)I" } : Jvm.MethodName)) ∈ GT := mT 1078 (by decide +kernel) rfl
theorem wt_1079 : (Jvm.Cond.instanceMethod ({ cls := "AsleepPassModel", name := "cold", desc := "(II)I" } : Jvm.MethodName)) ∈ GT := mT 1079 (by decide +kernel) rfl
theorem wt_1080 : (Jvm.Cond.selects "AsleepPassModel" ({ cls := "AsleepPassModel", name := "cold", desc := "(II)I" } : Jvm.MethodName) ({ cls := "AsleepPassModel", name := "cold", desc := "(II)I" } : Jvm.MethodName)) ∈ GT := mT 1080 (by decide +kernel) rfl
theorem wt_1081 : (Jvm.Cond.code ({ cls := "AsleepPassModel", name := "cold", desc := "(II)I" } : Jvm.MethodName) prog_13_method_25_code (3 : Nat) (Option.some Jvm.ClassFile.FieldType.int)) ∈ GT := mT 1081 (by decide +kernel) rfl
theorem wt_1082 : (Jvm.Cond.methodLink "AsleepPassLaw" (62 : Nat) ({ cls := "AsleepPassModel", name := "step", desc := "(II)I" } : Jvm.MethodName)) ∈ GT := mT 1082 (by decide +kernel) rfl
theorem wt_1083 : (Jvm.Cond.instanceMethod ({ cls := "AsleepPassModel", name := "step", desc := "(II)I" } : Jvm.MethodName)) ∈ GT := mT 1083 (by decide +kernel) rfl
theorem wt_1084 : (Jvm.Cond.selects "AsleepPassModel" ({ cls := "AsleepPassModel", name := "step", desc := "(II)I" } : Jvm.MethodName) ({ cls := "AsleepPassModel", name := "step", desc := "(II)I" } : Jvm.MethodName)) ∈ GT := mT 1084 (by decide +kernel) rfl
theorem wt_1085 : (Jvm.Cond.code ({ cls := "AsleepPassModel", name := "step", desc := "(II)I" } : Jvm.MethodName) prog_13_method_26_code (3 : Nat) (Option.some Jvm.ClassFile.FieldType.int)) ∈ GT := mT 1085 (by decide +kernel) rfl
theorem wt_1086 : (Jvm.Cond.methodLink "AsleepPassLaw" (66 : Nat) ({ cls := "AsleepPassModel", name := "warm", desc := "(II)I" } : Jvm.MethodName)) ∈ GT := mT 1086 (by decide +kernel) rfl
theorem wt_1087 : (Jvm.Cond.instanceMethod ({ cls := "AsleepPassModel", name := "warm", desc := "(II)I" } : Jvm.MethodName)) ∈ GT := mT 1087 (by decide +kernel) rfl
theorem wt_1088 : (Jvm.Cond.selects "AsleepPassModel" ({ cls := "AsleepPassModel", name := "warm", desc := "(II)I" } : Jvm.MethodName) ({ cls := "AsleepPassModel", name := "warm", desc := "(II)I" } : Jvm.MethodName)) ∈ GT := mT 1088 (by decide +kernel) rfl
theorem wt_1089 : (Jvm.Cond.code ({ cls := "AsleepPassModel", name := "warm", desc := "(II)I" } : Jvm.MethodName) prog_13_method_27_code (3 : Nat) (Option.some Jvm.ClassFile.FieldType.int)) ∈ GT := mT 1089 (by decide +kernel) rfl
theorem wt_1090 : (Jvm.Cond.methodLink "AsleepPassLaw" (70 : Nat) ({ cls := "AsleepPassModel", name := "put", desc := "(II)I" } : Jvm.MethodName)) ∈ GT := mT 1090 (by decide +kernel) rfl
theorem wt_1091 : (Jvm.Cond.instanceMethod ({ cls := "AsleepPassModel", name := "put", desc := "(II)I" } : Jvm.MethodName)) ∈ GT := mT 1091 (by decide +kernel) rfl
theorem wt_1092 : (Jvm.Cond.selects "AsleepPassModel" ({ cls := "AsleepPassModel", name := "put", desc := "(II)I" } : Jvm.MethodName) ({ cls := "AsleepPassModel", name := "put", desc := "(II)I" } : Jvm.MethodName)) ∈ GT := mT 1092 (by decide +kernel) rfl
theorem wt_1093 : (Jvm.Cond.code ({ cls := "AsleepPassModel", name := "put", desc := "(II)I" } : Jvm.MethodName) prog_13_method_29_code (3 : Nat) (Option.some Jvm.ClassFile.FieldType.int)) ∈ GT := mT 1093 (by decide +kernel) rfl
theorem wt_1094 : (Jvm.Cond.methodLink "AsleepPassModel" (176 : Nat) ({ cls := "AsleepPassModel", name := "puts", desc := "(II)I" } : Jvm.MethodName)) ∈ GT := mT 1094 (by decide +kernel) rfl
theorem wt_1096 : (Jvm.Cond.instanceMethod ({ cls := "AsleepPassModel", name := "puts", desc := "(II)I" } : Jvm.MethodName)) ∈ GT := mT 1096 (by decide +kernel) rfl
theorem wt_1097 : (Jvm.Cond.code ({ cls := "AsleepPassModel", name := "puts", desc := "(II)I" } : Jvm.MethodName) prog_13_method_28_code (3 : Nat) (Option.some Jvm.ClassFile.FieldType.int)) ∈ GT := mT 1097 (by decide +kernel) rfl
theorem wt_1098 : (Jvm.Cond.methodLink "AsleepPassLaw" (75 : Nat) ({ cls := "AsleepPassModel", name := "harm", desc := "(III)I" } : Jvm.MethodName)) ∈ GT := mT 1098 (by decide +kernel) rfl
theorem wt_1099 : (Jvm.Cond.instanceMethod ({ cls := "AsleepPassModel", name := "harm", desc := "(III)I" } : Jvm.MethodName)) ∈ GT := mT 1099 (by decide +kernel) rfl
theorem wt_1100 : (Jvm.Cond.selects "AsleepPassModel" ({ cls := "AsleepPassModel", name := "harm", desc := "(III)I" } : Jvm.MethodName) ({ cls := "AsleepPassModel", name := "harm", desc := "(III)I" } : Jvm.MethodName)) ∈ GT := mT 1100 (by decide +kernel) rfl
theorem wt_1101 : (Jvm.Cond.code ({ cls := "AsleepPassModel", name := "harm", desc := "(III)I" } : Jvm.MethodName) prog_13_method_33_code (4 : Nat) (Option.some Jvm.ClassFile.FieldType.int)) ∈ GT := mT 1101 (by decide +kernel) rfl
theorem wt_1102 : (Jvm.Cond.methodLink "AsleepPassModel" (183 : Nat) ({ cls := "AsleepPassModel", name := "canHarm", desc := "(III)Z" } : Jvm.MethodName)) ∈ GT := mT 1102 (by decide +kernel) rfl
theorem wt_1104 : (Jvm.Cond.instanceMethod ({ cls := "AsleepPassModel", name := "canHarm", desc := "(III)Z" } : Jvm.MethodName)) ∈ GT := mT 1104 (by decide +kernel) rfl
theorem wt_1105 : (Jvm.Cond.code ({ cls := "AsleepPassModel", name := "canHarm", desc := "(III)Z" } : Jvm.MethodName) prog_13_method_32_code (4 : Nat) (Option.some Jvm.ClassFile.FieldType.boolean)) ∈ GT := mT 1105 (by decide +kernel) rfl
theorem wt_1106 : (Jvm.Cond.methodLink "AsleepPassModel" (187 : Nat) ({ cls := "AsleepPassModel", name := "harmOf", desc := "(IIIZ)I" } : Jvm.MethodName)) ∈ GT := mT 1106 (by decide +kernel) rfl
theorem wt_1108 : (Jvm.Cond.instanceMethod ({ cls := "AsleepPassModel", name := "harmOf", desc := "(IIIZ)I" } : Jvm.MethodName)) ∈ GT := mT 1108 (by decide +kernel) rfl
theorem wt_1109 : (Jvm.Cond.code ({ cls := "AsleepPassModel", name := "harmOf", desc := "(IIIZ)I" } : Jvm.MethodName) prog_13_method_31_code (10 : Nat) (Option.some Jvm.ClassFile.FieldType.int)) ∈ GT := mT 1109 (by decide +kernel) rfl
theorem wt_1110 : (Jvm.Cond.methodLink "AsleepPassModel" (180 : Nat) ({ cls := "AsleepPassModel", name := "kindOf", desc := "(I)I" } : Jvm.MethodName)) ∈ GT := mT 1110 (by decide +kernel) rfl
theorem wt_1112 : (Jvm.Cond.instanceMethod ({ cls := "AsleepPassModel", name := "kindOf", desc := "(I)I" } : Jvm.MethodName)) ∈ GT := mT 1112 (by decide +kernel) rfl
theorem wt_1113 : (Jvm.Cond.code ({ cls := "AsleepPassModel", name := "kindOf", desc := "(I)I" } : Jvm.MethodName) prog_13_method_30_code (2 : Nat) (Option.some Jvm.ClassFile.FieldType.int)) ∈ GT := mT 1113 (by decide +kernel) rfl
theorem wt_1114 : (Jvm.Cond.methodLink "AsleepPassLaw" (80 : Nat) ({ cls := "AsleepPassModel", name := "wakes", desc := "(I)J" } : Jvm.MethodName)) ∈ GT := mT 1114 (by decide +kernel) rfl
theorem wt_1115 : (Jvm.Cond.instanceMethod ({ cls := "AsleepPassModel", name := "wakes", desc := "(I)J" } : Jvm.MethodName)) ∈ GT := mT 1115 (by decide +kernel) rfl
theorem wt_1116 : (Jvm.Cond.selects "AsleepPassModel" ({ cls := "AsleepPassModel", name := "wakes", desc := "(I)J" } : Jvm.MethodName) ({ cls := "AsleepPassModel", name := "wakes", desc := "(I)J" } : Jvm.MethodName)) ∈ GT := mT 1116 (by decide +kernel) rfl
theorem wt_1117 : (Jvm.Cond.code ({ cls := "AsleepPassModel", name := "wakes", desc := "(I)J" } : Jvm.MethodName) prog_13_method_39_code (2 : Nat) (Option.some Jvm.ClassFile.FieldType.long)) ∈ GT := mT 1117 (by decide +kernel) rfl
theorem wt_1118 : (Jvm.Cond.constantLong "AsleepPassModel" (200 : Nat) (-1 : Int64)) ∈ GT := mT 1118 (by decide +kernel) rfl
theorem wt_1119 : (Jvm.Cond.methodLink "AsleepPassModel" (202 : Nat) ({ cls := "AsleepPassModel", name := "layOdds", desc := "(III)V" } : Jvm.MethodName)) ∈ GT := mT 1119 (by decide +kernel) rfl
theorem wt_1121 : (Jvm.Cond.instanceMethod ({ cls := "AsleepPassModel", name := "layOdds", desc := "(III)V" } : Jvm.MethodName)) ∈ GT := mT 1121 (by decide +kernel) rfl
theorem wt_1122 : (Jvm.Cond.code ({ cls := "AsleepPassModel", name := "layOdds", desc := "(III)V" } : Jvm.MethodName) prog_13_method_37_code (8 : Nat) (Option.none : Option Jvm.ClassFile.FieldType)) ∈ GT := mT 1122 (by decide +kernel) rfl
theorem wt_1123 : (Jvm.Cond.methodLink "AsleepPassModel" (193 : Nat) ({ cls := "AsleepPassModel", name := "orderedHarm", desc := "(IZ)I" } : Jvm.MethodName)) ∈ GT := mT 1123 (by decide +kernel) rfl
theorem wt_1125 : (Jvm.Cond.instanceMethod ({ cls := "AsleepPassModel", name := "orderedHarm", desc := "(IZ)I" } : Jvm.MethodName)) ∈ GT := mT 1125 (by decide +kernel) rfl
theorem wt_1126 : (Jvm.Cond.code ({ cls := "AsleepPassModel", name := "orderedHarm", desc := "(IZ)I" } : Jvm.MethodName) prog_13_method_34_code (3 : Nat) (Option.some Jvm.ClassFile.FieldType.int)) ∈ GT := mT 1126 (by decide +kernel) rfl
theorem wt_1127 : (Jvm.Cond.constantLong "AsleepPassModel" (191 : Nat) (20 : Int64)) ∈ GT := mT 1127 (by decide +kernel) rfl
theorem wt_1128 : (Jvm.Cond.methodLink "AsleepPassModel" (197 : Nat) ({ cls := "AsleepPassModel", name := "deeper", desc := "(II)I" } : Jvm.MethodName)) ∈ GT := mT 1128 (by decide +kernel) rfl
theorem wt_1129 : (Jvm.Cond.static ({ cls := "AsleepPassModel", name := "deeper", desc := "(II)I" } : Jvm.MethodName)) ∈ GT := mT 1129 (by decide +kernel) rfl
theorem wt_1130 : (Jvm.Cond.code ({ cls := "AsleepPassModel", name := "deeper", desc := "(II)I" } : Jvm.MethodName) prog_13_method_36_code (2 : Nat) (Option.some Jvm.ClassFile.FieldType.int)) ∈ GT := mT 1130 (by decide +kernel) rfl
theorem wt_1131 : (Jvm.Cond.methodLink "AsleepPassModel" (206 : Nat) ({ cls := "AsleepPassModel", name := "power", desc := "(I)J" } : Jvm.MethodName)) ∈ GT := mT 1131 (by decide +kernel) rfl
theorem wt_1132 : (Jvm.Cond.static ({ cls := "AsleepPassModel", name := "power", desc := "(I)J" } : Jvm.MethodName)) ∈ GT := mT 1132 (by decide +kernel) rfl
theorem wt_1133 : (Jvm.Cond.code ({ cls := "AsleepPassModel", name := "power", desc := "(I)J" } : Jvm.MethodName) prog_13_method_35_code (4 : Nat) (Option.some Jvm.ClassFile.FieldType.long)) ∈ GT := mT 1133 (by decide +kernel) rfl
theorem wt_1134 : (Jvm.Cond.methodLink "AsleepPassModel" (210 : Nat) ({ cls := "AsleepPassModel", name := "lowest", desc := "(JJI)J" } : Jvm.MethodName)) ∈ GT := mT 1134 (by decide +kernel) rfl
theorem wt_1135 : (Jvm.Cond.static ({ cls := "AsleepPassModel", name := "lowest", desc := "(JJI)J" } : Jvm.MethodName)) ∈ GT := mT 1135 (by decide +kernel) rfl
theorem wt_1136 : (Jvm.Cond.code ({ cls := "AsleepPassModel", name := "lowest", desc := "(JJI)J" } : Jvm.MethodName) prog_13_method_38_code (11 : Nat) (Option.some Jvm.ClassFile.FieldType.long)) ∈ GT := mT 1136 (by decide +kernel) rfl
theorem wt_1137 : (Jvm.Cond.methodLink "AsleepPassLaw" (85 : Nat) ({ cls := "AsleepPassModel", name := "awake", desc := "(II)J" } : Jvm.MethodName)) ∈ GT := mT 1137 (by decide +kernel) rfl
theorem wt_1138 : (Jvm.Cond.instanceMethod ({ cls := "AsleepPassModel", name := "awake", desc := "(II)J" } : Jvm.MethodName)) ∈ GT := mT 1138 (by decide +kernel) rfl
theorem wt_1139 : (Jvm.Cond.selects "AsleepPassModel" ({ cls := "AsleepPassModel", name := "awake", desc := "(II)J" } : Jvm.MethodName) ({ cls := "AsleepPassModel", name := "awake", desc := "(II)J" } : Jvm.MethodName)) ∈ GT := mT 1139 (by decide +kernel) rfl
theorem wt_1140 : (Jvm.Cond.code ({ cls := "AsleepPassModel", name := "awake", desc := "(II)J" } : Jvm.MethodName) prog_13_method_40_code (3 : Nat) (Option.some Jvm.ClassFile.FieldType.long)) ∈ GT := mT 1140 (by decide +kernel) rfl
theorem wt_1141 : (Jvm.Cond.methodLink "AsleepPassModel" (214 : Nat) ({ cls := "AsleepPassModel", name := "depth", desc := "(III)J" } : Jvm.MethodName)) ∈ GT := mT 1141 (by decide +kernel) rfl
theorem wt_1142 : (Jvm.Cond.instanceMethod ({ cls := "AsleepPassModel", name := "depth", desc := "(III)J" } : Jvm.MethodName)) ∈ GT := mT 1142 (by decide +kernel) rfl
theorem wt_1143 : (Jvm.Cond.selects "AsleepPassModel" ({ cls := "AsleepPassModel", name := "depth", desc := "(III)J" } : Jvm.MethodName) ({ cls := "AsleepPassModel", name := "depth", desc := "(III)J" } : Jvm.MethodName)) ∈ GT := mT 1143 (by decide +kernel) rfl
theorem wt_1144 : (Jvm.Cond.code ({ cls := "AsleepPassModel", name := "depth", desc := "(III)J" } : Jvm.MethodName) prog_13_method_41_code (4 : Nat) (Option.some Jvm.ClassFile.FieldType.long)) ∈ GT := mT 1144 (by decide +kernel) rfl
theorem wt_1145 : (Jvm.Cond.methodLink "AsleepPassLaw" (90 : Nat) ({ cls := "AsleepPassModel", name := "depth", desc := "(III)J" } : Jvm.MethodName)) ∈ GT := mT 1145 (by decide +kernel) rfl
theorem wt_1146 : (Jvm.Cond.methodLink "AsleepPassLaw" (94 : Nat) ({ cls := "AsleepPassModel", name := "best", desc := "(I)J" } : Jvm.MethodName)) ∈ GT := mT 1146 (by decide +kernel) rfl
theorem wt_1147 : (Jvm.Cond.instanceMethod ({ cls := "AsleepPassModel", name := "best", desc := "(I)J" } : Jvm.MethodName)) ∈ GT := mT 1147 (by decide +kernel) rfl
theorem wt_1148 : (Jvm.Cond.selects "AsleepPassModel" ({ cls := "AsleepPassModel", name := "best", desc := "(I)J" } : Jvm.MethodName) ({ cls := "AsleepPassModel", name := "best", desc := "(I)J" } : Jvm.MethodName)) ∈ GT := mT 1148 (by decide +kernel) rfl
theorem wt_1149 : (Jvm.Cond.code ({ cls := "AsleepPassModel", name := "best", desc := "(I)J" } : Jvm.MethodName) prog_13_method_45_code (2 : Nat) (Option.some Jvm.ClassFile.FieldType.long)) ∈ GT := mT 1149 (by decide +kernel) rfl
theorem wt_1150 : (Jvm.Cond.methodLink "AsleepPassModel" (227 : Nat) ({ cls := "AsleepPassModel", name := "layBest", desc := "(I)V" } : Jvm.MethodName)) ∈ GT := mT 1150 (by decide +kernel) rfl
theorem wt_1152 : (Jvm.Cond.instanceMethod ({ cls := "AsleepPassModel", name := "layBest", desc := "(I)V" } : Jvm.MethodName)) ∈ GT := mT 1152 (by decide +kernel) rfl
theorem wt_1153 : (Jvm.Cond.code ({ cls := "AsleepPassModel", name := "layBest", desc := "(I)V" } : Jvm.MethodName) prog_13_method_44_code (8 : Nat) (Option.none : Option Jvm.ClassFile.FieldType)) ∈ GT := mT 1153 (by decide +kernel) rfl
theorem wt_1154 : (Jvm.Cond.constantLong "AsleepPassModel" (221 : Nat) (4000000000000000000 : Int64)) ∈ GT := mT 1154 (by decide +kernel) rfl
theorem wt_1155 : (Jvm.Cond.methodLink "AsleepPassModel" (223 : Nat) ({ cls := "AsleepPassModel", name := "byOne", desc := "(IIII)J" } : Jvm.MethodName)) ∈ GT := mT 1155 (by decide +kernel) rfl
theorem wt_1157 : (Jvm.Cond.instanceMethod ({ cls := "AsleepPassModel", name := "byOne", desc := "(IIII)J" } : Jvm.MethodName)) ∈ GT := mT 1157 (by decide +kernel) rfl
theorem wt_1158 : (Jvm.Cond.code ({ cls := "AsleepPassModel", name := "byOne", desc := "(IIII)J" } : Jvm.MethodName) prog_13_method_43_code (6 : Nat) (Option.some Jvm.ClassFile.FieldType.long)) ∈ GT := mT 1158 (by decide +kernel) rfl
theorem wt_1159 : (Jvm.Cond.methodLink "AsleepPassModel" (218 : Nat) ({ cls := "AsleepPassModel", name := "bestAt", desc := "(III)I" } : Jvm.MethodName)) ∈ GT := mT 1159 (by decide +kernel) rfl
theorem wt_1160 : (Jvm.Cond.static ({ cls := "AsleepPassModel", name := "bestAt", desc := "(III)I" } : Jvm.MethodName)) ∈ GT := mT 1160 (by decide +kernel) rfl
theorem wt_1161 : (Jvm.Cond.code ({ cls := "AsleepPassModel", name := "bestAt", desc := "(III)I" } : Jvm.MethodName) prog_13_method_42_code (3 : Nat) (Option.some Jvm.ClassFile.FieldType.int)) ∈ GT := mT 1161 (by decide +kernel) rfl
theorem wt_1162 : (Jvm.Cond.methodLink "AsleepPassLaw" (98 : Nat) ({ cls := "AsleepPassModel", name := "next", desc := "(III)I" } : Jvm.MethodName)) ∈ GT := mT 1162 (by decide +kernel) rfl
theorem wt_1163 : (Jvm.Cond.instanceMethod ({ cls := "AsleepPassModel", name := "next", desc := "(III)I" } : Jvm.MethodName)) ∈ GT := mT 1163 (by decide +kernel) rfl
theorem wt_1164 : (Jvm.Cond.selects "AsleepPassModel" ({ cls := "AsleepPassModel", name := "next", desc := "(III)I" } : Jvm.MethodName) ({ cls := "AsleepPassModel", name := "next", desc := "(III)I" } : Jvm.MethodName)) ∈ GT := mT 1164 (by decide +kernel) rfl
theorem wt_1165 : (Jvm.Cond.code ({ cls := "AsleepPassModel", name := "next", desc := "(III)I" } : Jvm.MethodName) prog_13_method_46_code (5 : Nat) (Option.some Jvm.ClassFile.FieldType.int)) ∈ GT := mT 1165 (by decide +kernel) rfl
theorem wt_1166 : (Jvm.Cond.methodLink "AsleepPassLaw" (102 : Nat) ({ cls := "AsleepPassModel", name := "without", desc := "(II)J" } : Jvm.MethodName)) ∈ GT := mT 1166 (by decide +kernel) rfl
theorem wt_1167 : (Jvm.Cond.instanceMethod ({ cls := "AsleepPassModel", name := "without", desc := "(II)J" } : Jvm.MethodName)) ∈ GT := mT 1167 (by decide +kernel) rfl
theorem wt_1168 : (Jvm.Cond.selects "AsleepPassModel" ({ cls := "AsleepPassModel", name := "without", desc := "(II)J" } : Jvm.MethodName) ({ cls := "AsleepPassModel", name := "without", desc := "(II)J" } : Jvm.MethodName)) ∈ GT := mT 1168 (by decide +kernel) rfl
theorem wt_1169 : (Jvm.Cond.code ({ cls := "AsleepPassModel", name := "without", desc := "(II)J" } : Jvm.MethodName) prog_13_method_47_code (3 : Nat) (Option.some Jvm.ClassFile.FieldType.long)) ∈ GT := mT 1169 (by decide +kernel) rfl
theorem wt_1170 : (Jvm.Cond.constantLong "AsleepPassModel" (230 : Nat) (-2 : Int64)) ∈ GT := mT 1170 (by decide +kernel) rfl
theorem wt_1171 : (Jvm.Cond.methodLink "AsleepPassLaw" (106 : Nat) ({ cls := "AsleepPassModel", name := "quiet", desc := "(II)J" } : Jvm.MethodName)) ∈ GT := mT 1171 (by decide +kernel) rfl
theorem wt_1172 : (Jvm.Cond.instanceMethod ({ cls := "AsleepPassModel", name := "quiet", desc := "(II)J" } : Jvm.MethodName)) ∈ GT := mT 1172 (by decide +kernel) rfl
theorem wt_1173 : (Jvm.Cond.selects "AsleepPassModel" ({ cls := "AsleepPassModel", name := "quiet", desc := "(II)J" } : Jvm.MethodName) ({ cls := "AsleepPassModel", name := "quiet", desc := "(II)J" } : Jvm.MethodName)) ∈ GT := mT 1173 (by decide +kernel) rfl
theorem wt_1174 : (Jvm.Cond.code ({ cls := "AsleepPassModel", name := "quiet", desc := "(II)J" } : Jvm.MethodName) prog_13_method_49_code (7 : Nat) (Option.some Jvm.ClassFile.FieldType.long)) ∈ GT := mT 1174 (by decide +kernel) rfl
theorem wt_1175 : (Jvm.Cond.constantLong "AsleepPassModel" (232 : Nat) (4 : Int64)) ∈ GT := mT 1175 (by decide +kernel) rfl
theorem wt_1176 : (Jvm.Cond.methodLink "AsleepPassModel" (234 : Nat) ({ cls := "AsleepPassModel", name := "bitsOf", desc := "(I)I" } : Jvm.MethodName)) ∈ GT := mT 1176 (by decide +kernel) rfl
theorem wt_1177 : (Jvm.Cond.static ({ cls := "AsleepPassModel", name := "bitsOf", desc := "(I)I" } : Jvm.MethodName)) ∈ GT := mT 1177 (by decide +kernel) rfl
theorem wt_1178 : (Jvm.Cond.code ({ cls := "AsleepPassModel", name := "bitsOf", desc := "(I)I" } : Jvm.MethodName) prog_13_method_48_code (3 : Nat) (Option.some Jvm.ClassFile.FieldType.int)) ∈ GT := mT 1178 (by decide +kernel) rfl
theorem wt_1179 : (Jvm.Cond.methodLink "AsleepPassLaw" (110 : Nat) ({ cls := "AsleepPassModel", name := "drop", desc := "(I)J" } : Jvm.MethodName)) ∈ GT := mT 1179 (by decide +kernel) rfl
theorem wt_1180 : (Jvm.Cond.instanceMethod ({ cls := "AsleepPassModel", name := "drop", desc := "(I)J" } : Jvm.MethodName)) ∈ GT := mT 1180 (by decide +kernel) rfl
theorem wt_1181 : (Jvm.Cond.selects "AsleepPassModel" ({ cls := "AsleepPassModel", name := "drop", desc := "(I)J" } : Jvm.MethodName) ({ cls := "AsleepPassModel", name := "drop", desc := "(I)J" } : Jvm.MethodName)) ∈ GT := mT 1181 (by decide +kernel) rfl
theorem wt_1182 : (Jvm.Cond.code ({ cls := "AsleepPassModel", name := "drop", desc := "(I)J" } : Jvm.MethodName) prog_13_method_50_code (6 : Nat) (Option.some Jvm.ClassFile.FieldType.long)) ∈ GT := mT 1182 (by decide +kernel) rfl
theorem wt_1183 : (Jvm.Cond.methodLink "AsleepPassLaw" (114 : Nat) ({ cls := "AsleepPassModel", name := "swap", desc := "(I)J" } : Jvm.MethodName)) ∈ GT := mT 1183 (by decide +kernel) rfl
theorem wt_1184 : (Jvm.Cond.instanceMethod ({ cls := "AsleepPassModel", name := "swap", desc := "(I)J" } : Jvm.MethodName)) ∈ GT := mT 1184 (by decide +kernel) rfl
theorem wt_1185 : (Jvm.Cond.selects "AsleepPassModel" ({ cls := "AsleepPassModel", name := "swap", desc := "(I)J" } : Jvm.MethodName) ({ cls := "AsleepPassModel", name := "swap", desc := "(I)J" } : Jvm.MethodName)) ∈ GT := mT 1185 (by decide +kernel) rfl
theorem wt_1186 : (Jvm.Cond.code ({ cls := "AsleepPassModel", name := "swap", desc := "(I)J" } : Jvm.MethodName) prog_13_method_52_code (7 : Nat) (Option.some Jvm.ClassFile.FieldType.long)) ∈ GT := mT 1186 (by decide +kernel) rfl
theorem wt_1187 : (Jvm.Cond.methodLink "AsleepPassModel" (237 : Nat) ({ cls := "AsleepPassModel", name := "changes", desc := "(II)V" } : Jvm.MethodName)) ∈ GT := mT 1187 (by decide +kernel) rfl
theorem wt_1189 : (Jvm.Cond.instanceMethod ({ cls := "AsleepPassModel", name := "changes", desc := "(II)V" } : Jvm.MethodName)) ∈ GT := mT 1189 (by decide +kernel) rfl
theorem wt_1190 : (Jvm.Cond.code ({ cls := "AsleepPassModel", name := "changes", desc := "(II)V" } : Jvm.MethodName) prog_13_method_51_code (4 : Nat) (Option.none : Option Jvm.ClassFile.FieldType)) ∈ GT := mT 1190 (by decide +kernel) rfl
theorem wt_1191 : (Jvm.Cond.methodLink "AsleepPassLaw" (118 : Nat) ({ cls := "AsleepPassModel", name := "carry", desc := "(II)I" } : Jvm.MethodName)) ∈ GT := mT 1191 (by decide +kernel) rfl
theorem wt_1192 : (Jvm.Cond.instanceMethod ({ cls := "AsleepPassModel", name := "carry", desc := "(II)I" } : Jvm.MethodName)) ∈ GT := mT 1192 (by decide +kernel) rfl
theorem wt_1193 : (Jvm.Cond.selects "AsleepPassModel" ({ cls := "AsleepPassModel", name := "carry", desc := "(II)I" } : Jvm.MethodName) ({ cls := "AsleepPassModel", name := "carry", desc := "(II)I" } : Jvm.MethodName)) ∈ GT := mT 1193 (by decide +kernel) rfl
theorem wt_1194 : (Jvm.Cond.code ({ cls := "AsleepPassModel", name := "carry", desc := "(II)I" } : Jvm.MethodName) prog_13_method_53_code (9 : Nat) (Option.some Jvm.ClassFile.FieldType.int)) ∈ GT := mT 1194 (by decide +kernel) rfl
theorem wt_1195 : (Jvm.Cond.constant "AsleepPassModel" (241 : Nat) (1103515245 : Int32)) ∈ GT := mT 1195 (by decide +kernel) rfl
theorem wt_1196 : (Jvm.Cond.methodLink "AsleepPassLaw" (123 : Nat) ({ cls := "AsleepPassModel", name := "learn", desc := "(IIII)I" } : Jvm.MethodName)) ∈ GT := mT 1196 (by decide +kernel) rfl
theorem wt_1197 : (Jvm.Cond.instanceMethod ({ cls := "AsleepPassModel", name := "learn", desc := "(IIII)I" } : Jvm.MethodName)) ∈ GT := mT 1197 (by decide +kernel) rfl
theorem wt_1198 : (Jvm.Cond.selects "AsleepPassModel" ({ cls := "AsleepPassModel", name := "learn", desc := "(IIII)I" } : Jvm.MethodName) ({ cls := "AsleepPassModel", name := "learn", desc := "(IIII)I" } : Jvm.MethodName)) ∈ GT := mT 1198 (by decide +kernel) rfl
theorem wt_1199 : (Jvm.Cond.code ({ cls := "AsleepPassModel", name := "learn", desc := "(IIII)I" } : Jvm.MethodName) prog_13_method_54_code (6 : Nat) (Option.some Jvm.ClassFile.FieldType.int)) ∈ GT := mT 1199 (by decide +kernel) rfl
theorem wt_1200 : (Jvm.Cond.methodLink "AsleepPassLaw" (127 : Nat) ({ cls := "AsleepPassModel", name := "forget", desc := "(I)I" } : Jvm.MethodName)) ∈ GT := mT 1200 (by decide +kernel) rfl
theorem wt_1201 : (Jvm.Cond.instanceMethod ({ cls := "AsleepPassModel", name := "forget", desc := "(I)I" } : Jvm.MethodName)) ∈ GT := mT 1201 (by decide +kernel) rfl
theorem wt_1202 : (Jvm.Cond.selects "AsleepPassModel" ({ cls := "AsleepPassModel", name := "forget", desc := "(I)I" } : Jvm.MethodName) ({ cls := "AsleepPassModel", name := "forget", desc := "(I)I" } : Jvm.MethodName)) ∈ GT := mT 1202 (by decide +kernel) rfl
theorem wt_1203 : (Jvm.Cond.code ({ cls := "AsleepPassModel", name := "forget", desc := "(I)I" } : Jvm.MethodName) prog_13_method_55_code (3 : Nat) (Option.some Jvm.ClassFile.FieldType.int)) ∈ GT := mT 1203 (by decide +kernel) rfl
theorem wt_1204 : (Jvm.Cond.methodLink "AsleepPassLaw" (131 : Nat) ({ cls := "AsleepPassModel", name := "steps", desc := "(II)I" } : Jvm.MethodName)) ∈ GT := mT 1204 (by decide +kernel) rfl
theorem wt_1205 : (Jvm.Cond.instanceMethod ({ cls := "AsleepPassModel", name := "steps", desc := "(II)I" } : Jvm.MethodName)) ∈ GT := mT 1205 (by decide +kernel) rfl
theorem wt_1206 : (Jvm.Cond.selects "AsleepPassModel" ({ cls := "AsleepPassModel", name := "steps", desc := "(II)I" } : Jvm.MethodName) ({ cls := "AsleepPassModel", name := "steps", desc := "(II)I" } : Jvm.MethodName)) ∈ GT := mT 1206 (by decide +kernel) rfl
theorem wt_1207 : (Jvm.Cond.code ({ cls := "AsleepPassModel", name := "steps", desc := "(II)I" } : Jvm.MethodName) prog_13_method_56_code (11 : Nat) (Option.some Jvm.ClassFile.FieldType.int)) ∈ GT := mT 1207 (by decide +kernel) rfl
theorem wt_1208 : (Jvm.Cond.methodLink "AsleepPassLaw" (135 : Nat) ({ cls := "AsleepPassModel", name := "mark", desc := "(II)I" } : Jvm.MethodName)) ∈ GT := mT 1208 (by decide +kernel) rfl
theorem wt_1209 : (Jvm.Cond.instanceMethod ({ cls := "AsleepPassModel", name := "mark", desc := "(II)I" } : Jvm.MethodName)) ∈ GT := mT 1209 (by decide +kernel) rfl
theorem wt_1210 : (Jvm.Cond.selects "AsleepPassModel" ({ cls := "AsleepPassModel", name := "mark", desc := "(II)I" } : Jvm.MethodName) ({ cls := "AsleepPassModel", name := "mark", desc := "(II)I" } : Jvm.MethodName)) ∈ GT := mT 1210 (by decide +kernel) rfl
theorem wt_1211 : (Jvm.Cond.code ({ cls := "AsleepPassModel", name := "mark", desc := "(II)I" } : Jvm.MethodName) prog_13_method_57_code (3 : Nat) (Option.some Jvm.ClassFile.FieldType.int)) ∈ GT := mT 1211 (by decide +kernel) rfl
theorem wt_1212 : (Jvm.Cond.methodLink "AsleepPassLaw" (139 : Nat) ({ cls := "AsleepPassModel", name := "wipe", desc := "(I)I" } : Jvm.MethodName)) ∈ GT := mT 1212 (by decide +kernel) rfl
theorem wt_1213 : (Jvm.Cond.instanceMethod ({ cls := "AsleepPassModel", name := "wipe", desc := "(I)I" } : Jvm.MethodName)) ∈ GT := mT 1213 (by decide +kernel) rfl
theorem wt_1214 : (Jvm.Cond.selects "AsleepPassModel" ({ cls := "AsleepPassModel", name := "wipe", desc := "(I)I" } : Jvm.MethodName) ({ cls := "AsleepPassModel", name := "wipe", desc := "(I)I" } : Jvm.MethodName)) ∈ GT := mT 1214 (by decide +kernel) rfl
theorem wt_1215 : (Jvm.Cond.code ({ cls := "AsleepPassModel", name := "wipe", desc := "(I)I" } : Jvm.MethodName) prog_13_method_58_code (3 : Nat) (Option.some Jvm.ClassFile.FieldType.int)) ∈ GT := mT 1215 (by decide +kernel) rfl
theorem wt_1216 : (Jvm.Cond.methodLink "AsleepPassLaw" (143 : Nat) ({ cls := "AsleepPassModel", name := "paths", desc := "()I" } : Jvm.MethodName)) ∈ GT := mT 1216 (by decide +kernel) rfl
theorem wt_1217 : (Jvm.Cond.instanceMethod ({ cls := "AsleepPassModel", name := "paths", desc := "()I" } : Jvm.MethodName)) ∈ GT := mT 1217 (by decide +kernel) rfl
theorem wt_1218 : (Jvm.Cond.selects "AsleepPassModel" ({ cls := "AsleepPassModel", name := "paths", desc := "()I" } : Jvm.MethodName) ({ cls := "AsleepPassModel", name := "paths", desc := "()I" } : Jvm.MethodName)) ∈ GT := mT 1218 (by decide +kernel) rfl
theorem wt_1219 : (Jvm.Cond.code ({ cls := "AsleepPassModel", name := "paths", desc := "()I" } : Jvm.MethodName) prog_13_method_63_code (1 : Nat) (Option.some Jvm.ClassFile.FieldType.int)) ∈ GT := mT 1219 (by decide +kernel) rfl
theorem wt_1220 : (Jvm.Cond.methodLink "AsleepPassModel" (253 : Nat) ({ cls := "AsleepPassModel", name := "layPaths", desc := "()V" } : Jvm.MethodName)) ∈ GT := mT 1220 (by decide +kernel) rfl
theorem wt_1222 : (Jvm.Cond.instanceMethod ({ cls := "AsleepPassModel", name := "layPaths", desc := "()V" } : Jvm.MethodName)) ∈ GT := mT 1222 (by decide +kernel) rfl
theorem wt_1223 : (Jvm.Cond.code ({ cls := "AsleepPassModel", name := "layPaths", desc := "()V" } : Jvm.MethodName) prog_13_method_61_code (6 : Nat) (Option.none : Option Jvm.ClassFile.FieldType)) ∈ GT := mT 1223 (by decide +kernel) rfl
theorem wt_1224 : (Jvm.Cond.methodLink "AsleepPassModel" (246 : Nat) ({ cls := "AsleepPassModel", name := "depthThen", desc := "(IIZ)I" } : Jvm.MethodName)) ∈ GT := mT 1224 (by decide +kernel) rfl
theorem wt_1226 : (Jvm.Cond.instanceMethod ({ cls := "AsleepPassModel", name := "depthThen", desc := "(IIZ)I" } : Jvm.MethodName)) ∈ GT := mT 1226 (by decide +kernel) rfl
theorem wt_1227 : (Jvm.Cond.code ({ cls := "AsleepPassModel", name := "depthThen", desc := "(IIZ)I" } : Jvm.MethodName) prog_13_method_60_code (6 : Nat) (Option.some Jvm.ClassFile.FieldType.int)) ∈ GT := mT 1227 (by decide +kernel) rfl
theorem wt_1228 : (Jvm.Cond.methodLink "AsleepPassModel" (242 : Nat) ({ cls := "AsleepPassModel", name := "isMarked", desc := "(II)Z" } : Jvm.MethodName)) ∈ GT := mT 1228 (by decide +kernel) rfl
theorem wt_1230 : (Jvm.Cond.instanceMethod ({ cls := "AsleepPassModel", name := "isMarked", desc := "(II)Z" } : Jvm.MethodName)) ∈ GT := mT 1230 (by decide +kernel) rfl
theorem wt_1231 : (Jvm.Cond.code ({ cls := "AsleepPassModel", name := "isMarked", desc := "(II)Z" } : Jvm.MethodName) prog_13_method_59_code (5 : Nat) (Option.some Jvm.ClassFile.FieldType.boolean)) ∈ GT := mT 1231 (by decide +kernel) rfl
theorem wt_1232 : (Jvm.Cond.methodLink "AsleepPassModel" (250 : Nat) ({ cls := "AsleepPassModel", name := "onward", desc := "(IIZ)I" } : Jvm.MethodName)) ∈ GT := mT 1232 (by decide +kernel) rfl
theorem wt_1234 : (Jvm.Cond.instanceMethod ({ cls := "AsleepPassModel", name := "onward", desc := "(IIZ)I" } : Jvm.MethodName)) ∈ GT := mT 1234 (by decide +kernel) rfl
theorem wt_1235 : (Jvm.Cond.code ({ cls := "AsleepPassModel", name := "onward", desc := "(IIZ)I" } : Jvm.MethodName) prog_13_method_62_code (5 : Nat) (Option.some Jvm.ClassFile.FieldType.int)) ∈ GT := mT 1235 (by decide +kernel) rfl
theorem wt_1236 : (Jvm.Cond.methodLink "AsleepPassLaw" (147 : Nat) ({ cls := "AsleepPassModel", name := "eye", desc := "(I)I" } : Jvm.MethodName)) ∈ GT := mT 1236 (by decide +kernel) rfl
theorem wt_1237 : (Jvm.Cond.instanceMethod ({ cls := "AsleepPassModel", name := "eye", desc := "(I)I" } : Jvm.MethodName)) ∈ GT := mT 1237 (by decide +kernel) rfl
theorem wt_1238 : (Jvm.Cond.selects "AsleepPassModel" ({ cls := "AsleepPassModel", name := "eye", desc := "(I)I" } : Jvm.MethodName) ({ cls := "AsleepPassModel", name := "eye", desc := "(I)I" } : Jvm.MethodName)) ∈ GT := mT 1238 (by decide +kernel) rfl
theorem wt_1239 : (Jvm.Cond.code ({ cls := "AsleepPassModel", name := "eye", desc := "(I)I" } : Jvm.MethodName) prog_13_method_64_code (4 : Nat) (Option.some Jvm.ClassFile.FieldType.int)) ∈ GT := mT 1239 (by decide +kernel) rfl
theorem wt_1240 : (Jvm.Cond.methodLink "AsleepPassLaw" (151 : Nat) ({ cls := "AsleepPassModel", name := "sure", desc := "(I)I" } : Jvm.MethodName)) ∈ GT := mT 1240 (by decide +kernel) rfl
theorem wt_1241 : (Jvm.Cond.instanceMethod ({ cls := "AsleepPassModel", name := "sure", desc := "(I)I" } : Jvm.MethodName)) ∈ GT := mT 1241 (by decide +kernel) rfl
theorem wt_1242 : (Jvm.Cond.selects "AsleepPassModel" ({ cls := "AsleepPassModel", name := "sure", desc := "(I)I" } : Jvm.MethodName) ({ cls := "AsleepPassModel", name := "sure", desc := "(I)I" } : Jvm.MethodName)) ∈ GT := mT 1242 (by decide +kernel) rfl
theorem wt_1243 : (Jvm.Cond.code ({ cls := "AsleepPassModel", name := "sure", desc := "(I)I" } : Jvm.MethodName) prog_13_method_65_code (7 : Nat) (Option.some Jvm.ClassFile.FieldType.int)) ∈ GT := mT 1243 (by decide +kernel) rfl
theorem wt_1244 : (Jvm.Cond.methodLink "AsleepPassLaw" (155 : Nat) ({ cls := "AsleepPassModel", name := "keep", desc := "(I)I" } : Jvm.MethodName)) ∈ GT := mT 1244 (by decide +kernel) rfl
theorem wt_1245 : (Jvm.Cond.instanceMethod ({ cls := "AsleepPassModel", name := "keep", desc := "(I)I" } : Jvm.MethodName)) ∈ GT := mT 1245 (by decide +kernel) rfl
theorem wt_1246 : (Jvm.Cond.selects "AsleepPassModel" ({ cls := "AsleepPassModel", name := "keep", desc := "(I)I" } : Jvm.MethodName) ({ cls := "AsleepPassModel", name := "keep", desc := "(I)I" } : Jvm.MethodName)) ∈ GT := mT 1246 (by decide +kernel) rfl
theorem wt_1247 : (Jvm.Cond.code ({ cls := "AsleepPassModel", name := "keep", desc := "(I)I" } : Jvm.MethodName) prog_13_method_67_code (3 : Nat) (Option.some Jvm.ClassFile.FieldType.int)) ∈ GT := mT 1247 (by decide +kernel) rfl
theorem wt_1248 : (Jvm.Cond.methodLink "AsleepPassModel" (256 : Nat) ({ cls := "AsleepPassModel", name := "copies", desc := "(II)V" } : Jvm.MethodName)) ∈ GT := mT 1248 (by decide +kernel) rfl
theorem wt_1250 : (Jvm.Cond.instanceMethod ({ cls := "AsleepPassModel", name := "copies", desc := "(II)V" } : Jvm.MethodName)) ∈ GT := mT 1250 (by decide +kernel) rfl
theorem wt_1251 : (Jvm.Cond.code ({ cls := "AsleepPassModel", name := "copies", desc := "(II)V" } : Jvm.MethodName) prog_13_method_66_code (4 : Nat) (Option.none : Option Jvm.ClassFile.FieldType)) ∈ GT := mT 1251 (by decide +kernel) rfl
theorem wt_1252 : (Jvm.Cond.methodLink "AsleepPassLaw" (159 : Nat) ({ cls := "AsleepPassModel", name := "back", desc := "(I)I" } : Jvm.MethodName)) ∈ GT := mT 1252 (by decide +kernel) rfl
theorem wt_1253 : (Jvm.Cond.instanceMethod ({ cls := "AsleepPassModel", name := "back", desc := "(I)I" } : Jvm.MethodName)) ∈ GT := mT 1253 (by decide +kernel) rfl
theorem wt_1254 : (Jvm.Cond.selects "AsleepPassModel" ({ cls := "AsleepPassModel", name := "back", desc := "(I)I" } : Jvm.MethodName) ({ cls := "AsleepPassModel", name := "back", desc := "(I)I" } : Jvm.MethodName)) ∈ GT := mT 1254 (by decide +kernel) rfl
theorem wt_1255 : (Jvm.Cond.code ({ cls := "AsleepPassModel", name := "back", desc := "(I)I" } : Jvm.MethodName) prog_13_method_68_code (2 : Nat) (Option.some Jvm.ClassFile.FieldType.int)) ∈ GT := mT 1255 (by decide +kernel) rfl
theorem wt_1256 : (Jvm.Cond.methodLink "AsleepPassLaw" (163 : Nat) ({ cls := "AsleepPassModel", name := "sheet", desc := "(III)I" } : Jvm.MethodName)) ∈ GT := mT 1256 (by decide +kernel) rfl
theorem wt_1257 : (Jvm.Cond.instanceMethod ({ cls := "AsleepPassModel", name := "sheet", desc := "(III)I" } : Jvm.MethodName)) ∈ GT := mT 1257 (by decide +kernel) rfl
theorem wt_1258 : (Jvm.Cond.selects "AsleepPassModel" ({ cls := "AsleepPassModel", name := "sheet", desc := "(III)I" } : Jvm.MethodName) ({ cls := "AsleepPassModel", name := "sheet", desc := "(III)I" } : Jvm.MethodName)) ∈ GT := mT 1258 (by decide +kernel) rfl
theorem wt_1259 : (Jvm.Cond.code ({ cls := "AsleepPassModel", name := "sheet", desc := "(III)I" } : Jvm.MethodName) prog_13_method_69_code (5 : Nat) (Option.some Jvm.ClassFile.FieldType.int)) ∈ GT := mT 1259 (by decide +kernel) rfl
theorem wt_1260 : (Jvm.Cond.methodLink "AsleepPassLaw" (167 : Nat) ({ cls := "AsleepPassModel", name := "lay", desc := "(III)I" } : Jvm.MethodName)) ∈ GT := mT 1260 (by decide +kernel) rfl
theorem wt_1261 : (Jvm.Cond.instanceMethod ({ cls := "AsleepPassModel", name := "lay", desc := "(III)I" } : Jvm.MethodName)) ∈ GT := mT 1261 (by decide +kernel) rfl
theorem wt_1262 : (Jvm.Cond.selects "AsleepPassModel" ({ cls := "AsleepPassModel", name := "lay", desc := "(III)I" } : Jvm.MethodName) ({ cls := "AsleepPassModel", name := "lay", desc := "(III)I" } : Jvm.MethodName)) ∈ GT := mT 1262 (by decide +kernel) rfl
theorem wt_1263 : (Jvm.Cond.code ({ cls := "AsleepPassModel", name := "lay", desc := "(III)I" } : Jvm.MethodName) prog_13_method_70_code (4 : Nat) (Option.some Jvm.ClassFile.FieldType.int)) ∈ GT := mT 1263 (by decide +kernel) rfl
theorem wt_1264 : (Jvm.Cond.methodLink "AsleepPassLaw" (171 : Nat) ({ cls := "AsleepPassModel", name := "read", desc := "(IIII)I" } : Jvm.MethodName)) ∈ GT := mT 1264 (by decide +kernel) rfl
theorem wt_1265 : (Jvm.Cond.instanceMethod ({ cls := "AsleepPassModel", name := "read", desc := "(IIII)I" } : Jvm.MethodName)) ∈ GT := mT 1265 (by decide +kernel) rfl
theorem wt_1266 : (Jvm.Cond.selects "AsleepPassModel" ({ cls := "AsleepPassModel", name := "read", desc := "(IIII)I" } : Jvm.MethodName) ({ cls := "AsleepPassModel", name := "read", desc := "(IIII)I" } : Jvm.MethodName)) ∈ GT := mT 1266 (by decide +kernel) rfl
theorem wt_1267 : (Jvm.Cond.code ({ cls := "AsleepPassModel", name := "read", desc := "(IIII)I" } : Jvm.MethodName) prog_13_method_71_code (9 : Nat) (Option.some Jvm.ClassFile.FieldType.int)) ∈ GT := mT 1267 (by decide +kernel) rfl
theorem wt_1268 : (Jvm.Cond.methodLink "AsleepPassLaw" (175 : Nat) ({ cls := "AsleepPassModel", name := "torn", desc := "()I" } : Jvm.MethodName)) ∈ GT := mT 1268 (by decide +kernel) rfl
theorem wt_1269 : (Jvm.Cond.instanceMethod ({ cls := "AsleepPassModel", name := "torn", desc := "()I" } : Jvm.MethodName)) ∈ GT := mT 1269 (by decide +kernel) rfl
theorem wt_1270 : (Jvm.Cond.selects "AsleepPassModel" ({ cls := "AsleepPassModel", name := "torn", desc := "()I" } : Jvm.MethodName) ({ cls := "AsleepPassModel", name := "torn", desc := "()I" } : Jvm.MethodName)) ∈ GT := mT 1270 (by decide +kernel) rfl
theorem wt_1271 : (Jvm.Cond.code ({ cls := "AsleepPassModel", name := "torn", desc := "()I" } : Jvm.MethodName) prog_13_method_72_code (1 : Nat) (Option.some Jvm.ClassFile.FieldType.int)) ∈ GT := mT 1271 (by decide +kernel) rfl
theorem wt_1272 : (Jvm.Cond.methodLink "AsleepPassLaw" (179 : Nat) ({ cls := "AsleepPassModel", name := "count", desc := "(I)I" } : Jvm.MethodName)) ∈ GT := mT 1272 (by decide +kernel) rfl
theorem wt_1273 : (Jvm.Cond.instanceMethod ({ cls := "AsleepPassModel", name := "count", desc := "(I)I" } : Jvm.MethodName)) ∈ GT := mT 1273 (by decide +kernel) rfl
theorem wt_1274 : (Jvm.Cond.selects "AsleepPassModel" ({ cls := "AsleepPassModel", name := "count", desc := "(I)I" } : Jvm.MethodName) ({ cls := "AsleepPassModel", name := "count", desc := "(I)I" } : Jvm.MethodName)) ∈ GT := mT 1274 (by decide +kernel) rfl
theorem wt_1275 : (Jvm.Cond.code ({ cls := "AsleepPassModel", name := "count", desc := "(I)I" } : Jvm.MethodName) prog_13_method_73_code (4 : Nat) (Option.some Jvm.ClassFile.FieldType.int)) ∈ GT := mT 1275 (by decide +kernel) rfl
theorem wt_1276 : (Jvm.Cond.constantLong "AsleepPassLaw" (13 : Nat) (4294967295 : Int64)) ∈ GT := mT 1276 (by decide +kernel) rfl
theorem wt_1277 : (Jvm.Cond.fieldLink "java/lang/String" (9 : Nat) "java/lang/String" "value" "[B") ∈ GT := mT 1277 (by decide +kernel) rfl
theorem wt_1278 : (Jvm.Cond.fieldLink "java/lang/String" (15 : Nat) "java/lang/String" "coder" "B") ∈ GT := mT 1278 (by decide +kernel) rfl
theorem ws_0 : Cond.selects "AsleepPass$Tape" ⟨"AsleepPass$Tape", "addBytes", "(J)Z"⟩ ⟨"AsleepPass$Tape", "addBytes", "(J)Z"⟩ ∈ GT := mS (q := (⟨"AsleepPass$Tape", "addBytes", "(J)Z"⟩, 2)) 0 (by decide +kernel)
theorem ws_1 : Cond.selects "AsleepPass$Reader" ⟨"AsleepPass$Reader", "readAll", "()V"⟩ ⟨"AsleepPass$Reader", "readAll", "()V"⟩ ∈ GT := mS (q := (⟨"AsleepPass$Reader", "readAll", "()V"⟩, 12)) 1 (by decide +kernel)
theorem ws_2 : Cond.selects "AsleepPass$Reader" ⟨"AsleepPass$Reader", "begin", "()V"⟩ ⟨"AsleepPass$Reader", "begin", "()V"⟩ ∈ GT := mS (q := (⟨"AsleepPass$Reader", "begin", "()V"⟩, 12)) 2 (by decide +kernel)
theorem ws_3 : Cond.selects "AsleepPass$Way" ⟨"AsleepPass$Way", "clear", "()V"⟩ ⟨"AsleepPass$Way", "clear", "()V"⟩ ∈ GT := mS (q := (⟨"AsleepPass$Way", "clear", "()V"⟩, 9)) 3 (by decide +kernel)
theorem ws_4 : Cond.selects "AsleepPass$Reader" ⟨"AsleepPass$Reader", "nextToken", "()Z"⟩ ⟨"AsleepPass$Reader", "nextToken", "()Z"⟩ ∈ GT := mS (q := (⟨"AsleepPass$Reader", "nextToken", "()Z"⟩, 12)) 4 (by decide +kernel)
theorem ws_5 : Cond.selects "AsleepPass$Tape" ⟨"AsleepPass$Tape", "pastAll", "(ICC)I"⟩ ⟨"AsleepPass$Tape", "pastAll", "(ICC)I"⟩ ∈ GT := mS (q := (⟨"AsleepPass$Tape", "pastAll", "(ICC)I"⟩, 2)) 5 (by decide +kernel)
theorem ws_6 : Cond.selects "AsleepPass$Tape" ⟨"AsleepPass$Tape", "byteAt", "(I)I"⟩ ⟨"AsleepPass$Tape", "byteAt", "(I)I"⟩ ∈ GT := mS (q := (⟨"AsleepPass$Tape", "byteAt", "(I)I"⟩, 2)) 6 (by decide +kernel)
theorem ws_7 : Cond.selects "AsleepPass$Reader" ⟨"AsleepPass$Reader", "refuse", "(II)Z"⟩ ⟨"AsleepPass$Reader", "refuse", "(II)Z"⟩ ∈ GT := mS (q := (⟨"AsleepPass$Reader", "refuse", "(II)Z"⟩, 12)) 7 (by decide +kernel)
theorem ws_8 : Cond.selects "AsleepPass$Reader" ⟨"AsleepPass$Reader", "readLine", "()Z"⟩ ⟨"AsleepPass$Reader", "readLine", "()Z"⟩ ∈ GT := mS (q := (⟨"AsleepPass$Reader", "readLine", "()Z"⟩, 12)) 8 (by decide +kernel)
theorem ws_9 : Cond.selects "AsleepPass$Reader" ⟨"AsleepPass$Reader", "isName", "(Ljava/lang/String;)Z"⟩ ⟨"AsleepPass$Reader", "isName", "(Ljava/lang/String;)Z"⟩ ∈ GT := mS (q := (⟨"AsleepPass$Reader", "isName", "(Ljava/lang/String;)Z"⟩, 12)) 9 (by decide +kernel)
theorem ws_10 : Cond.selects "AsleepPass$Tape" ⟨"AsleepPass$Tape", "says", "(IILjava/lang/String;)Z"⟩ ⟨"AsleepPass$Tape", "says", "(IILjava/lang/String;)Z"⟩ ∈ GT := mS (q := (⟨"AsleepPass$Tape", "says", "(IILjava/lang/String;)Z"⟩, 2)) 10 (by decide +kernel)
theorem ws_11 : Cond.selects "AsleepPass$Reader" ⟨"AsleepPass$Reader", "readStart", "()Z"⟩ ⟨"AsleepPass$Reader", "readStart", "()Z"⟩ ∈ GT := mS (q := (⟨"AsleepPass$Reader", "readStart", "()Z"⟩, 12)) 11 (by decide +kernel)
theorem ws_12 : Cond.selects "AsleepPass$Reader" ⟨"AsleepPass$Reader", "nextNumber", "(II)Z"⟩ ⟨"AsleepPass$Reader", "nextNumber", "(II)Z"⟩ ∈ GT := mS (q := (⟨"AsleepPass$Reader", "nextNumber", "(II)Z"⟩, 12)) 12 (by decide +kernel)
theorem ws_13 : Cond.selects "AsleepPass$Reader" ⟨"AsleepPass$Reader", "value", "()I"⟩ ⟨"AsleepPass$Reader", "value", "()I"⟩ ∈ GT := mS (q := (⟨"AsleepPass$Reader", "value", "()I"⟩, 12)) 13 (by decide +kernel)
theorem ws_14 : Cond.selects "AsleepPass$Reader" ⟨"AsleepPass$Reader", "nextStop", "()Z"⟩ ⟨"AsleepPass$Reader", "nextStop", "()Z"⟩ ∈ GT := mS (q := (⟨"AsleepPass$Reader", "nextStop", "()Z"⟩, 12)) 14 (by decide +kernel)
theorem ws_15 : Cond.selects "AsleepPass$Reader" ⟨"AsleepPass$Reader", "readStretch", "()Z"⟩ ⟨"AsleepPass$Reader", "readStretch", "()Z"⟩ ∈ GT := mS (q := (⟨"AsleepPass$Reader", "readStretch", "()Z"⟩, 12)) 15 (by decide +kernel)
theorem ws_16 : Cond.selects "AsleepPass$Way" ⟨"AsleepPass$Way", "addStretch", "(II)V"⟩ ⟨"AsleepPass$Way", "addStretch", "(II)V"⟩ ∈ GT := mS (q := (⟨"AsleepPass$Way", "addStretch", "(II)V"⟩, 9)) 16 (by decide +kernel)
theorem ws_17 : Cond.selects "AsleepPass$Reader" ⟨"AsleepPass$Reader", "readBearer", "()Z"⟩ ⟨"AsleepPass$Reader", "readBearer", "()Z"⟩ ∈ GT := mS (q := (⟨"AsleepPass$Reader", "readBearer", "()Z"⟩, 12)) 17 (by decide +kernel)
theorem ws_18 : Cond.selects "AsleepPass$Reader" ⟨"AsleepPass$Reader", "kind", "()I"⟩ ⟨"AsleepPass$Reader", "kind", "()I"⟩ ∈ GT := mS (q := (⟨"AsleepPass$Reader", "kind", "()I"⟩, 12)) 18 (by decide +kernel)
theorem ws_19 : Cond.selects "AsleepPass$Way" ⟨"AsleepPass$Way", "addBearer", "(III)V"⟩ ⟨"AsleepPass$Way", "addBearer", "(III)V"⟩ ∈ GT := mS (q := (⟨"AsleepPass$Way", "addBearer", "(III)V"⟩, 9)) 19 (by decide +kernel)
theorem ws_20 : Cond.selects "AsleepPass$Reader" ⟨"AsleepPass$Reader", "readCarry", "()Z"⟩ ⟨"AsleepPass$Reader", "readCarry", "()Z"⟩ ∈ GT := mS (q := (⟨"AsleepPass$Reader", "readCarry", "()Z"⟩, 12)) 20 (by decide +kernel)
theorem ws_21 : Cond.selects "AsleepPass$Reader" ⟨"AsleepPass$Reader", "lookBehindAll", "()V"⟩ ⟨"AsleepPass$Reader", "lookBehindAll", "()V"⟩ ∈ GT := mS (q := (⟨"AsleepPass$Reader", "lookBehindAll", "()V"⟩, 12)) 21 (by decide +kernel)
theorem ws_22 : Cond.selects "AsleepPass$Way" ⟨"AsleepPass$Way", "copyOf", "(LAsleepPass$Way;)V"⟩ ⟨"AsleepPass$Way", "copyOf", "(LAsleepPass$Way;)V"⟩ ∈ GT := mS (q := (⟨"AsleepPass$Way", "copyOf", "(LAsleepPass$Way;)V"⟩, 9)) 22 (by decide +kernel)
theorem ws_23 : Cond.selects "AsleepPass$Way" ⟨"AsleepPass$Way", "hasStretch", "(I)Z"⟩ ⟨"AsleepPass$Way", "hasStretch", "(I)Z"⟩ ∈ GT := mS (q := (⟨"AsleepPass$Way", "hasStretch", "(I)Z"⟩, 9)) 23 (by decide +kernel)
theorem ws_24 : Cond.selects "AsleepPass$Way" ⟨"AsleepPass$Way", "hasBearer", "(I)Z"⟩ ⟨"AsleepPass$Way", "hasBearer", "(I)Z"⟩ ∈ GT := mS (q := (⟨"AsleepPass$Way", "hasBearer", "(I)Z"⟩, 9)) 24 (by decide +kernel)
theorem ws_25 : Cond.selects "AsleepPass$Way" ⟨"AsleepPass$Way", "canHand", "(III)Z"⟩ ⟨"AsleepPass$Way", "canHand", "(III)Z"⟩ ∈ GT := mS (q := (⟨"AsleepPass$Way", "canHand", "(III)Z"⟩, 9)) 25 (by decide +kernel)
theorem ws_26 : Cond.selects "AsleepPass$Way" ⟨"AsleepPass$Way", "harmBy", "(III)I"⟩ ⟨"AsleepPass$Way", "harmBy", "(III)I"⟩ ∈ GT := mS (q := (⟨"AsleepPass$Way", "harmBy", "(III)I"⟩, 9)) 26 (by decide +kernel)
theorem ws_27 : Cond.selects "AsleepPass$Way" ⟨"AsleepPass$Way", "noiseBy", "(II)I"⟩ ⟨"AsleepPass$Way", "noiseBy", "(II)I"⟩ ∈ GT := mS (q := (⟨"AsleepPass$Way", "noiseBy", "(II)I"⟩, 9)) 27 (by decide +kernel)
theorem ws_28 : Cond.selects "AsleepPass$Way" ⟨"AsleepPass$Way", "coldBy", "(II)I"⟩ ⟨"AsleepPass$Way", "coldBy", "(II)I"⟩ ∈ GT := mS (q := (⟨"AsleepPass$Way", "coldBy", "(II)I"⟩, 9)) 28 (by decide +kernel)
theorem ws_29 : Cond.selects "AsleepPass$Way" ⟨"AsleepPass$Way", "joltBy", "(II)I"⟩ ⟨"AsleepPass$Way", "joltBy", "(II)I"⟩ ∈ GT := mS (q := (⟨"AsleepPass$Way", "joltBy", "(II)I"⟩, 9)) 29 (by decide +kernel)
theorem ws_30 : Cond.selects "AsleepPass$Odds" ⟨"AsleepPass$Odds", "waking", "(LAsleepPass$Way;II)J"⟩ ⟨"AsleepPass$Odds", "waking", "(LAsleepPass$Way;II)J"⟩ ∈ GT := mS (q := (⟨"AsleepPass$Odds", "waking", "(LAsleepPass$Way;II)J"⟩, 3)) 30 (by decide +kernel)
theorem ws_31 : Cond.selects "AsleepPass$Odds" ⟨"AsleepPass$Odds", "begin", "(I)V"⟩ ⟨"AsleepPass$Odds", "begin", "(I)V"⟩ ∈ GT := mS (q := (⟨"AsleepPass$Odds", "begin", "(I)V"⟩, 3)) 31 (by decide +kernel)
theorem ws_32 : Cond.selects "AsleepPass$Odds" ⟨"AsleepPass$Odds", "deepen", "()V"⟩ ⟨"AsleepPass$Odds", "deepen", "()V"⟩ ∈ GT := mS (q := (⟨"AsleepPass$Odds", "deepen", "()V"⟩, 3)) 32 (by decide +kernel)
theorem ws_33 : Cond.selects "AsleepPass$Odds" ⟨"AsleepPass$Odds", "takeAhead", "()V"⟩ ⟨"AsleepPass$Odds", "takeAhead", "()V"⟩ ∈ GT := mS (q := (⟨"AsleepPass$Odds", "takeAhead", "()V"⟩, 3)) 33 (by decide +kernel)
theorem ws_34 : Cond.selects "AsleepPass$Way" ⟨"AsleepPass$Way", "harmInOrder", "(I)I"⟩ ⟨"AsleepPass$Way", "harmInOrder", "(I)I"⟩ ∈ GT := mS (q := (⟨"AsleepPass$Way", "harmInOrder", "(I)I"⟩, 9)) 34 (by decide +kernel)
theorem ws_35 : Cond.selects "AsleepPass$Odds" ⟨"AsleepPass$Odds", "pass", "(I)V"⟩ ⟨"AsleepPass$Odds", "pass", "(I)V"⟩ ∈ GT := mS (q := (⟨"AsleepPass$Odds", "pass", "(I)V"⟩, 3)) 35 (by decide +kernel)
theorem ws_36 : Cond.selects "AsleepPass$Choice" ⟨"AsleepPass$Choice", "plan", "(LAsleepPass$Way;I)V"⟩ ⟨"AsleepPass$Choice", "plan", "(LAsleepPass$Way;I)V"⟩ ∈ GT := mS (q := (⟨"AsleepPass$Choice", "plan", "(LAsleepPass$Way;I)V"⟩, 3)) 36 (by decide +kernel)
theorem ws_37 : Cond.selects "AsleepPass$Choice" ⟨"AsleepPass$Choice", "chooseFrom", "(LAsleepPass$Way;III)V"⟩ ⟨"AsleepPass$Choice", "chooseFrom", "(LAsleepPass$Way;III)V"⟩ ∈ GT := mS (q := (⟨"AsleepPass$Choice", "chooseFrom", "(LAsleepPass$Way;III)V"⟩, 3)) 37 (by decide +kernel)
theorem ws_38 : Cond.selects "AsleepPass$Choice" ⟨"AsleepPass$Choice", "weigh", "(IIII)V"⟩ ⟨"AsleepPass$Choice", "weigh", "(IIII)V"⟩ ∈ GT := mS (q := (⟨"AsleepPass$Choice", "weigh", "(IIII)V"⟩, 3)) 38 (by decide +kernel)
theorem ws_39 : Cond.selects "AsleepPass$Choice" ⟨"AsleepPass$Choice", "wakingAtFirst", "(LAsleepPass$Way;)J"⟩ ⟨"AsleepPass$Choice", "wakingAtFirst", "(LAsleepPass$Way;)J"⟩ ∈ GT := mS (q := (⟨"AsleepPass$Choice", "wakingAtFirst", "(LAsleepPass$Way;)J"⟩, 3)) 39 (by decide +kernel)
theorem ws_40 : Cond.selects "AsleepPass" ⟨"AsleepPass", "stopNoises", "(I)V"⟩ ⟨"AsleepPass", "stopNoises", "(I)V"⟩ ∈ GT := mS (q := (⟨"AsleepPass", "stopNoises", "(I)V"⟩, 14)) 40 (by decide +kernel)
theorem ws_41 : Cond.selects "AsleepPass$Way" ⟨"AsleepPass$Way", "exchange", "(II)V"⟩ ⟨"AsleepPass$Way", "exchange", "(II)V"⟩ ∈ GT := mS (q := (⟨"AsleepPass$Way", "exchange", "(II)V"⟩, 9)) 41 (by decide +kernel)
theorem ws_42 : Cond.selects "AsleepPass$Crossing" ⟨"AsleepPass$Crossing", "cross", "(LAsleepPass$Way;I)V"⟩ ⟨"AsleepPass$Crossing", "cross", "(LAsleepPass$Way;I)V"⟩ ∈ GT := mS (q := (⟨"AsleepPass$Crossing", "cross", "(LAsleepPass$Way;I)V"⟩, 3)) 42 (by decide +kernel)
theorem ws_43 : Cond.selects "AsleepPass$Learnt" ⟨"AsleepPass$Learnt", "add", "(IIII)Z"⟩ ⟨"AsleepPass$Learnt", "add", "(IIII)Z"⟩ ∈ GT := mS (q := (⟨"AsleepPass$Learnt", "add", "(IIII)Z"⟩, 5)) 43 (by decide +kernel)
theorem ws_44 : Cond.selects "AsleepPass$Learnt" ⟨"AsleepPass$Learnt", "isSo", "(LAsleepPass$Way;)Z"⟩ ⟨"AsleepPass$Learnt", "isSo", "(LAsleepPass$Way;)Z"⟩ ∈ GT := mS (q := (⟨"AsleepPass$Learnt", "isSo", "(LAsleepPass$Way;)Z"⟩, 5)) 44 (by decide +kernel)
theorem ws_45 : Cond.selects "AsleepPass$Marked" ⟨"AsleepPass$Marked", "add", "(II)Z"⟩ ⟨"AsleepPass$Marked", "add", "(II)Z"⟩ ∈ GT := mS (q := (⟨"AsleepPass$Marked", "add", "(II)Z"⟩, 3)) 45 (by decide +kernel)
theorem ws_46 : Cond.selects "AsleepPass$Trails" ⟨"AsleepPass$Trails", "explore", "(LAsleepPass$Way;LAsleepPass$Marked;)V"⟩ ⟨"AsleepPass$Trails", "explore", "(LAsleepPass$Way;LAsleepPass$Marked;)V"⟩ ∈ GT := mS (q := (⟨"AsleepPass$Trails", "explore", "(LAsleepPass$Way;LAsleepPass$Marked;)V"⟩, 3)) 46 (by decide +kernel)
theorem ws_47 : Cond.selects "AsleepPass$Trails" ⟨"AsleepPass$Trails", "leadInto", "(II)V"⟩ ⟨"AsleepPass$Trails", "leadInto", "(II)V"⟩ ∈ GT := mS (q := (⟨"AsleepPass$Trails", "leadInto", "(II)V"⟩, 3)) 47 (by decide +kernel)
theorem ws_48 : Cond.selects "AsleepPass$Marked" ⟨"AsleepPass$Marked", "allows", "(II)Z"⟩ ⟨"AsleepPass$Marked", "allows", "(II)Z"⟩ ∈ GT := mS (q := (⟨"AsleepPass$Marked", "allows", "(II)Z"⟩, 3)) 48 (by decide +kernel)
theorem ws_49 : Cond.selects "AsleepPass$Trails" ⟨"AsleepPass$Trails", "leadOnward", "(II)V"⟩ ⟨"AsleepPass$Trails", "leadOnward", "(II)V"⟩ ∈ GT := mS (q := (⟨"AsleepPass$Trails", "leadOnward", "(II)V"⟩, 3)) 49 (by decide +kernel)
theorem ws_50 : Cond.selects "AsleepPass$Trails" ⟨"AsleepPass$Trails", "canBeBehind", "(II)Z"⟩ ⟨"AsleepPass$Trails", "canBeBehind", "(II)Z"⟩ ∈ GT := mS (q := (⟨"AsleepPass$Trails", "canBeBehind", "(II)Z"⟩, 3)) 50 (by decide +kernel)
theorem ws_51 : Cond.selects "AsleepPass$Trails" ⟨"AsleepPass$Trails", "falling", "(LAsleepPass$Way;I)I"⟩ ⟨"AsleepPass$Trails", "falling", "(LAsleepPass$Way;I)I"⟩ ∈ GT := mS (q := (⟨"AsleepPass$Trails", "falling", "(LAsleepPass$Way;I)I"⟩, 3)) 51 (by decide +kernel)
theorem ws_52 : Cond.selects "AsleepPass$Trails" ⟨"AsleepPass$Trails", "rising", "(LAsleepPass$Way;I)I"⟩ ⟨"AsleepPass$Trails", "rising", "(LAsleepPass$Way;I)I"⟩ ∈ GT := mS (q := (⟨"AsleepPass$Trails", "rising", "(LAsleepPass$Way;I)I"⟩, 3)) 52 (by decide +kernel)
theorem ws_53 : Cond.selects "AsleepPass$Sheets" ⟨"AsleepPass$Sheets", "renew", "(III)V"⟩ ⟨"AsleepPass$Sheets", "renew", "(III)V"⟩ ∈ GT := mS (q := (⟨"AsleepPass$Sheets", "renew", "(III)V"⟩, 7)) 53 (by decide +kernel)
theorem ws_54 : Cond.selects "AsleepPass$Sheets" ⟨"AsleepPass$Sheets", "faultAt", "(IJ)I"⟩ ⟨"AsleepPass$Sheets", "faultAt", "(IJ)I"⟩ ∈ GT := mS (q := (⟨"AsleepPass$Sheets", "faultAt", "(IJ)I"⟩, 7)) 54 (by decide +kernel)
theorem ws_55 : Cond.selects "AsleepPass$Sheets" ⟨"AsleepPass$Sheets", "fill", "(III)V"⟩ ⟨"AsleepPass$Sheets", "fill", "(III)V"⟩ ∈ GT := mS (q := (⟨"AsleepPass$Sheets", "fill", "(III)V"⟩, 7)) 55 (by decide +kernel)
theorem ws_56 : Cond.selects "AsleepPass$Sheets" ⟨"AsleepPass$Sheets", "takePairs", "(IIII)V"⟩ ⟨"AsleepPass$Sheets", "takePairs", "(IIII)V"⟩ ∈ GT := mS (q := (⟨"AsleepPass$Sheets", "takePairs", "(IIII)V"⟩, 7)) 56 (by decide +kernel)
theorem ws_57 : Cond.selects "AsleepPass$Sheets" ⟨"AsleepPass$Sheets", "sizeOf", "(I)I"⟩ ⟨"AsleepPass$Sheets", "sizeOf", "(I)I"⟩ ∈ GT := mS (q := (⟨"AsleepPass$Sheets", "sizeOf", "(I)I"⟩, 7)) 57 (by decide +kernel)
theorem ws_58 : Cond.selects "AsleepPass$Way" ⟨"AsleepPass$Way", "handOvers", "()I"⟩ ⟨"AsleepPass$Way", "handOvers", "()I"⟩ ∈ GT := mS (q := (⟨"AsleepPass$Way", "handOvers", "()I"⟩, 9)) 58 (by decide +kernel)
theorem ws_59 : Cond.selects "AsleepPassModel" ⟨"AsleepPassModel", "goesOn", "()V"⟩ ⟨"AsleepPassModel", "goesOn", "()V"⟩ ∈ GT := mS (q := (⟨"AsleepPassModel", "goesOn", "()V"⟩, 35)) 59 (by decide +kernel)
theorem ws_60 : Cond.selects "AsleepPassModel" ⟨"AsleepPassModel", "byteAt", "(I)I"⟩ ⟨"AsleepPassModel", "byteAt", "(I)I"⟩ ∈ GT := mS (q := (⟨"AsleepPassModel", "byteAt", "(I)I"⟩, 35)) 60 (by decide +kernel)
theorem ws_61 : Cond.selects "AsleepPassModel" ⟨"AsleepPassModel", "fails", "(I)V"⟩ ⟨"AsleepPassModel", "fails", "(I)V"⟩ ∈ GT := mS (q := (⟨"AsleepPassModel", "fails", "(I)V"⟩, 35)) 61 (by decide +kernel)
theorem ws_62 : Cond.selects "AsleepPassModel" ⟨"AsleepPassModel", "readLine", "()V"⟩ ⟨"AsleepPassModel", "readLine", "()V"⟩ ∈ GT := mS (q := (⟨"AsleepPassModel", "readLine", "()V"⟩, 35)) 62 (by decide +kernel)
theorem ws_63 : Cond.selects "AsleepPassModel" ⟨"AsleepPassModel", "nameHere", "()I"⟩ ⟨"AsleepPassModel", "nameHere", "()I"⟩ ∈ GT := mS (q := (⟨"AsleepPassModel", "nameHere", "()I"⟩, 35)) 63 (by decide +kernel)
theorem ws_64 : Cond.selects "AsleepPassModel" ⟨"AsleepPassModel", "readBearer", "()V"⟩ ⟨"AsleepPassModel", "readBearer", "()V"⟩ ∈ GT := mS (q := (⟨"AsleepPassModel", "readBearer", "()V"⟩, 35)) 64 (by decide +kernel)
theorem ws_65 : Cond.selects "AsleepPassModel" ⟨"AsleepPassModel", "other", "(III)I"⟩ ⟨"AsleepPassModel", "other", "(III)I"⟩ ∈ GT := mS (q := (⟨"AsleepPassModel", "other", "(III)I"⟩, 35)) 65 (by decide +kernel)
theorem ws_66 : Cond.selects "AsleepPassModel" ⟨"AsleepPassModel", "readMore", "(I)V"⟩ ⟨"AsleepPassModel", "readMore", "(I)V"⟩ ∈ GT := mS (q := (⟨"AsleepPassModel", "readMore", "(I)V"⟩, 35)) 66 (by decide +kernel)
theorem ws_67 : Cond.selects "AsleepPassModel" ⟨"AsleepPassModel", "startNow", "()I"⟩ ⟨"AsleepPassModel", "startNow", "()I"⟩ ∈ GT := mS (q := (⟨"AsleepPassModel", "startNow", "()I"⟩, 35)) 67 (by decide +kernel)
theorem ws_68 : Cond.selects "AsleepPassModel" ⟨"AsleepPassModel", "isStretch", "(I)Z"⟩ ⟨"AsleepPassModel", "isStretch", "(I)Z"⟩ ∈ GT := mS (q := (⟨"AsleepPassModel", "isStretch", "(I)Z"⟩, 35)) 68 (by decide +kernel)
theorem ws_69 : Cond.selects "AsleepPassModel" ⟨"AsleepPassModel", "isBearer", "(I)Z"⟩ ⟨"AsleepPassModel", "isBearer", "(I)Z"⟩ ∈ GT := mS (q := (⟨"AsleepPassModel", "isBearer", "(I)Z"⟩, 35)) 69 (by decide +kernel)
theorem ws_70 : Cond.selects "AsleepPassModel" ⟨"AsleepPassModel", "sets", "(ZII)I"⟩ ⟨"AsleepPassModel", "sets", "(ZII)I"⟩ ∈ GT := mS (q := (⟨"AsleepPassModel", "sets", "(ZII)I"⟩, 35)) 70 (by decide +kernel)
theorem ws_71 : Cond.selects "AsleepPassModel" ⟨"AsleepPassModel", "puts", "(II)I"⟩ ⟨"AsleepPassModel", "puts", "(II)I"⟩ ∈ GT := mS (q := (⟨"AsleepPassModel", "puts", "(II)I"⟩, 35)) 71 (by decide +kernel)
theorem ws_72 : Cond.selects "AsleepPassModel" ⟨"AsleepPassModel", "canHarm", "(III)Z"⟩ ⟨"AsleepPassModel", "canHarm", "(III)Z"⟩ ∈ GT := mS (q := (⟨"AsleepPassModel", "canHarm", "(III)Z"⟩, 35)) 72 (by decide +kernel)
theorem ws_73 : Cond.selects "AsleepPassModel" ⟨"AsleepPassModel", "harmOf", "(IIIZ)I"⟩ ⟨"AsleepPassModel", "harmOf", "(IIIZ)I"⟩ ∈ GT := mS (q := (⟨"AsleepPassModel", "harmOf", "(IIIZ)I"⟩, 35)) 73 (by decide +kernel)
theorem ws_74 : Cond.selects "AsleepPassModel" ⟨"AsleepPassModel", "kindOf", "(I)I"⟩ ⟨"AsleepPassModel", "kindOf", "(I)I"⟩ ∈ GT := mS (q := (⟨"AsleepPassModel", "kindOf", "(I)I"⟩, 35)) 74 (by decide +kernel)
theorem ws_75 : Cond.selects "AsleepPassModel" ⟨"AsleepPassModel", "layOdds", "(III)V"⟩ ⟨"AsleepPassModel", "layOdds", "(III)V"⟩ ∈ GT := mS (q := (⟨"AsleepPassModel", "layOdds", "(III)V"⟩, 35)) 75 (by decide +kernel)
theorem ws_76 : Cond.selects "AsleepPassModel" ⟨"AsleepPassModel", "orderedHarm", "(IZ)I"⟩ ⟨"AsleepPassModel", "orderedHarm", "(IZ)I"⟩ ∈ GT := mS (q := (⟨"AsleepPassModel", "orderedHarm", "(IZ)I"⟩, 35)) 76 (by decide +kernel)
theorem ws_77 : Cond.selects "AsleepPassModel" ⟨"AsleepPassModel", "layBest", "(I)V"⟩ ⟨"AsleepPassModel", "layBest", "(I)V"⟩ ∈ GT := mS (q := (⟨"AsleepPassModel", "layBest", "(I)V"⟩, 35)) 77 (by decide +kernel)
theorem ws_78 : Cond.selects "AsleepPassModel" ⟨"AsleepPassModel", "byOne", "(IIII)J"⟩ ⟨"AsleepPassModel", "byOne", "(IIII)J"⟩ ∈ GT := mS (q := (⟨"AsleepPassModel", "byOne", "(IIII)J"⟩, 35)) 78 (by decide +kernel)
theorem ws_79 : Cond.selects "AsleepPassModel" ⟨"AsleepPassModel", "changes", "(II)V"⟩ ⟨"AsleepPassModel", "changes", "(II)V"⟩ ∈ GT := mS (q := (⟨"AsleepPassModel", "changes", "(II)V"⟩, 35)) 79 (by decide +kernel)
theorem ws_80 : Cond.selects "AsleepPassModel" ⟨"AsleepPassModel", "layPaths", "()V"⟩ ⟨"AsleepPassModel", "layPaths", "()V"⟩ ∈ GT := mS (q := (⟨"AsleepPassModel", "layPaths", "()V"⟩, 35)) 80 (by decide +kernel)
theorem ws_81 : Cond.selects "AsleepPassModel" ⟨"AsleepPassModel", "depthThen", "(IIZ)I"⟩ ⟨"AsleepPassModel", "depthThen", "(IIZ)I"⟩ ∈ GT := mS (q := (⟨"AsleepPassModel", "depthThen", "(IIZ)I"⟩, 35)) 81 (by decide +kernel)
theorem ws_82 : Cond.selects "AsleepPassModel" ⟨"AsleepPassModel", "isMarked", "(II)Z"⟩ ⟨"AsleepPassModel", "isMarked", "(II)Z"⟩ ∈ GT := mS (q := (⟨"AsleepPassModel", "isMarked", "(II)Z"⟩, 35)) 82 (by decide +kernel)
theorem ws_83 : Cond.selects "AsleepPassModel" ⟨"AsleepPassModel", "onward", "(IIZ)I"⟩ ⟨"AsleepPassModel", "onward", "(IIZ)I"⟩ ∈ GT := mS (q := (⟨"AsleepPassModel", "onward", "(IIZ)I"⟩, 35)) 83 (by decide +kernel)
theorem ws_84 : Cond.selects "AsleepPassModel" ⟨"AsleepPassModel", "copies", "(II)V"⟩ ⟨"AsleepPassModel", "copies", "(II)V"⟩ ∈ GT := mS (q := (⟨"AsleepPassModel", "copies", "(II)V"⟩, 35)) 84 (by decide +kernel)
theorem inG0 : ∀ w ∈ u_ws RX0 TX0 3, w ∈ GT := by
  intro w hw
  obtain ⟨k, hk, rfl⟩ := List.mem_map.mp hw
  have hk := List.mem_range.mp hk
  match k, hk with
  | 0, _ => exact wt_185
  | 1, _ => exact wt_187
  | 2, _ => exact wt_189
  | k + 3, h => exact absurd h (by omega)
theorem inG1 : ∀ w ∈ u_ws RX1 TX1 3, w ∈ GT := by
  intro w hw
  obtain ⟨k, hk, rfl⟩ := List.mem_map.mp hw
  have hk := List.mem_range.mp hk
  match k, hk with
  | 0, _ => exact wt_204
  | 1, _ => exact wt_206
  | 2, _ => exact wt_208
  | k + 3, h => exact absurd h (by omega)
theorem inG2 : ∀ w ∈ u_ws RX2 TX2 5, w ∈ GT := by
  intro w hw
  obtain ⟨k, hk, rfl⟩ := List.mem_map.mp hw
  have hk := List.mem_range.mp hk
  match k, hk with
  | 0, _ => exact wt_223
  | 1, _ => exact wt_225
  | 2, _ => exact wt_227
  | 3, _ => exact wt_229
  | 4, _ => exact wt_231
  | k + 5, h => exact absurd h (by omega)
theorem inG3 : ∀ w ∈ u_ws RX3 TX3 3, w ∈ GT := by
  intro w hw
  obtain ⟨k, hk, rfl⟩ := List.mem_map.mp hw
  have hk := List.mem_range.mp hk
  match k, hk with
  | 0, _ => exact wt_244
  | 1, _ => exact wt_246
  | 2, _ => exact wt_248
  | k + 3, h => exact absurd h (by omega)
theorem inG4 : ∀ w ∈ u_ws RX4 TX4 3, w ∈ GT := by
  intro w hw
  obtain ⟨k, hk, rfl⟩ := List.mem_map.mp hw
  have hk := List.mem_range.mp hk
  match k, hk with
  | 0, _ => exact wt_161
  | 1, _ => exact wt_163
  | 2, _ => exact wt_165
  | k + 3, h => exact absurd h (by omega)
theorem inG5 : ∀ w ∈ u_ws RX5 TX5 12, w ∈ GT := by
  intro w hw
  obtain ⟨k, hk, rfl⟩ := List.mem_map.mp hw
  have hk := List.mem_range.mp hk
  match k, hk with
  | 0, _ => exact wt_122
  | 1, _ => exact wt_124
  | 2, _ => exact wt_126
  | 3, _ => exact wt_128
  | 4, _ => exact wt_130
  | 5, _ => exact wt_132
  | 6, _ => exact wt_134
  | 7, _ => exact wt_136
  | 8, _ => exact wt_138
  | 9, _ => exact wt_140
  | 10, _ => exact wt_142
  | 11, _ => exact wt_144
  | k + 12, h => exact absurd h (by omega)
theorem inG6 : ∀ w ∈ u_ws RX6 TX6 7, w ∈ GT := by
  intro w hw
  obtain ⟨k, hk, rfl⟩ := List.mem_map.mp hw
  have hk := List.mem_range.mp hk
  match k, hk with
  | 0, _ => exact wt_287
  | 1, _ => exact wt_289
  | 2, _ => exact wt_291
  | 3, _ => exact wt_293
  | 4, _ => exact wt_295
  | 5, _ => exact wt_297
  | 6, _ => exact wt_299
  | k + 7, h => exact absurd h (by omega)
theorem inG7 : ∀ w ∈ u_ws RX7 TX7 2, w ∈ GT := by
  intro w hw
  obtain ⟨k, hk, rfl⟩ := List.mem_map.mp hw
  have hk := List.mem_range.mp hk
  match k, hk with
  | 0, _ => exact wt_44
  | 1, _ => exact wt_46
  | k + 2, h => exact absurd h (by omega)
theorem inG8 : ∀ w ∈ u_ws RX8 TX8 3, w ∈ GT := by
  intro w hw
  obtain ⟨k, hk, rfl⟩ := List.mem_map.mp hw
  have hk := List.mem_range.mp hk
  match k, hk with
  | 0, _ => exact wt_262
  | 1, _ => exact wt_264
  | 2, _ => exact wt_266
  | k + 3, h => exact absurd h (by omega)
theorem inG9 : ∀ w ∈ u_ws RX9 TX9 9, w ∈ GT := by
  intro w hw
  obtain ⟨k, hk, rfl⟩ := List.mem_map.mp hw
  have hk := List.mem_range.mp hk
  match k, hk with
  | 0, _ => exact wt_86
  | 1, _ => exact wt_88
  | 2, _ => exact wt_90
  | 3, _ => exact wt_92
  | 4, _ => exact wt_94
  | 5, _ => exact wt_96
  | 6, _ => exact wt_98
  | 7, _ => exact wt_100
  | 8, _ => exact wt_102
  | k + 9, h => exact absurd h (by omega)
theorem inG10 : ∀ w ∈ u_ws RX10 TX10 14, w ∈ GT := by
  intro w hw
  obtain ⟨k, hk, rfl⟩ := List.mem_map.mp hw
  have hk := List.mem_range.mp hk
  match k, hk with
  | 0, _ => exact wt_316
  | 1, _ => exact wt_318
  | 2, _ => exact wt_320
  | 3, _ => exact wt_322
  | 4, _ => exact wt_324
  | 5, _ => exact wt_326
  | 6, _ => exact wt_328
  | 7, _ => exact wt_330
  | 8, _ => exact wt_332
  | 9, _ => exact wt_334
  | 10, _ => exact wt_336
  | 11, _ => exact wt_338
  | 12, _ => exact wt_340
  | 13, _ => exact wt_342
  | k + 14, h => exact absurd h (by omega)
theorem inG11 : ∀ w ∈ u_ws RX11 TX11 35, w ∈ GT := by
  intro w hw
  obtain ⟨k, hk, rfl⟩ := List.mem_map.mp hw
  have hk := List.mem_range.mp hk
  match k, hk with
  | 0, _ => exact wt_913
  | 1, _ => exact wt_915
  | 2, _ => exact wt_917
  | 3, _ => exact wt_919
  | 4, _ => exact wt_921
  | 5, _ => exact wt_923
  | 6, _ => exact wt_925
  | 7, _ => exact wt_927
  | 8, _ => exact wt_929
  | 9, _ => exact wt_931
  | 10, _ => exact wt_933
  | 11, _ => exact wt_935
  | 12, _ => exact wt_937
  | 13, _ => exact wt_939
  | 14, _ => exact wt_941
  | 15, _ => exact wt_943
  | 16, _ => exact wt_945
  | 17, _ => exact wt_947
  | 18, _ => exact wt_949
  | 19, _ => exact wt_951
  | 20, _ => exact wt_953
  | 21, _ => exact wt_955
  | 22, _ => exact wt_957
  | 23, _ => exact wt_959
  | 24, _ => exact wt_961
  | 25, _ => exact wt_963
  | 26, _ => exact wt_965
  | 27, _ => exact wt_967
  | 28, _ => exact wt_969
  | 29, _ => exact wt_971
  | 30, _ => exact wt_973
  | 31, _ => exact wt_975
  | 32, _ => exact wt_977
  | 33, _ => exact wt_979
  | 34, _ => exact wt_981
  | k + 35, h => exact absurd h (by omega)
theorem mfX0_init : MFI yX0_init cX0_init 1 0 := ⟨wt_174, wt_173, wt_6, rfl, ⟨by decide +kernel, by decide +kernel, by decide +kernel⟩⟩
theorem mfX0_slot : MFS yX0_slot cX0_slot 2 (some .int) 2 := ⟨wt_668, wt_667, wt_6, ⟨by decide +kernel, by decide +kernel, by decide +kernel⟩⟩
theorem mfX0_plan : MF yX0_plan cX0_plan 5 none 2 := ⟨wt_660, wt_659, ws_36, wt_6, ⟨by decide +kernel, by decide +kernel, by decide +kernel⟩⟩
theorem mfX0_chooseFrom : MF yX0_chooseFrom cX0_chooseFrom 6 none 4 := ⟨wt_665, wt_664, ws_37, wt_6, ⟨by decide +kernel, by decide +kernel, by decide +kernel⟩⟩
theorem mfX0_weigh : MF yX0_weigh cX0_weigh 12 none 4 := ⟨wt_674, wt_673, ws_38, wt_6, ⟨by decide +kernel, by decide +kernel, by decide +kernel⟩⟩
theorem mfX0_wakingAtFirst : MF yX0_wakingAtFirst cX0_wakingAtFirst 2 (some .long) 1 := ⟨wt_679, wt_678, ws_39, wt_6, ⟨by decide +kernel, by decide +kernel, by decide +kernel⟩⟩
theorem mfX1_init : MFI yX1_init cX1_init 1 0 := ⟨wt_196, wt_195, wt_7, rfl, ⟨by decide +kernel, by decide +kernel, by decide +kernel⟩⟩
theorem mfX1_cross : MF yX1_cross cX1_cross 5 none 2 := ⟨wt_726, wt_725, ws_42, wt_7, ⟨by decide +kernel, by decide +kernel, by decide +kernel⟩⟩
theorem mfX2_init : MFI yX2_init cX2_init 1 0 := ⟨wt_215, wt_214, wt_8, rfl, ⟨by decide +kernel, by decide +kernel, by decide +kernel⟩⟩
theorem mfX2_add : MF yX2_add cX2_add 5 (some .boolean) 4 := ⟨wt_737, wt_736, ws_43, wt_8, ⟨by decide +kernel, by decide +kernel, by decide +kernel⟩⟩
theorem mfX2_isSo : MF yX2_isSo cX2_isSo 3 (some .boolean) 1 := ⟨wt_749, wt_748, ws_44, wt_8, ⟨by decide +kernel, by decide +kernel, by decide +kernel⟩⟩
theorem mfX3_init : MFI yX3_init cX3_init 1 0 := ⟨wt_238, wt_237, wt_9, rfl, ⟨by decide +kernel, by decide +kernel, by decide +kernel⟩⟩
theorem mfX3_add : MF yX3_add cX3_add 3 (some .boolean) 2 := ⟨wt_758, wt_757, ws_45, wt_9, ⟨by decide +kernel, by decide +kernel, by decide +kernel⟩⟩
theorem mfX3_allows : MF yX3_allows cX3_allows 4 (some .boolean) 2 := ⟨wt_783, wt_782, ws_48, wt_9, ⟨by decide +kernel, by decide +kernel, by decide +kernel⟩⟩
theorem mfX4_init : MFI yX4_init cX4_init 1 0 := ⟨wt_154, wt_153, wt_5, rfl, ⟨by decide +kernel, by decide +kernel, by decide +kernel⟩⟩
theorem mfX4_waking : MF yX4_waking cX4_waking 5 (some .long) 3 := ⟨wt_611, wt_610, ws_30, wt_5, ⟨by decide +kernel, by decide +kernel, by decide +kernel⟩⟩
theorem mfX4_begin : MF yX4_begin cX4_begin 3 none 1 := ⟨wt_615, wt_614, ws_31, wt_5, ⟨by decide +kernel, by decide +kernel, by decide +kernel⟩⟩
theorem mfX4_takeAhead : MF yX4_takeAhead cX4_takeAhead 2 none 0 := ⟨wt_623, wt_622, ws_33, wt_5, ⟨by decide +kernel, by decide +kernel, by decide +kernel⟩⟩
theorem mfX4_pass : MF yX4_pass cX4_pass 3 none 1 := ⟨wt_633, wt_632, ws_35, wt_5, ⟨by decide +kernel, by decide +kernel, by decide +kernel⟩⟩
theorem mfX4_deepen : MF yX4_deepen cX4_deepen 2 none 0 := ⟨wt_619, wt_618, ws_32, wt_5, ⟨by decide +kernel, by decide +kernel, by decide +kernel⟩⟩
theorem mfX5_init : MFI yX5_init cX5_init 1 0 := ⟨wt_32, wt_31, wt_2, rfl, ⟨by decide +kernel, by decide +kernel, by decide +kernel⟩⟩
theorem mfX5_readAll : MF yX5_readAll cX5_readAll 2 none 0 := ⟨wt_365, wt_364, ws_1, wt_2, ⟨by decide +kernel, by decide +kernel, by decide +kernel⟩⟩
theorem mfX5_begin : MF yX5_begin cX5_begin 1 none 0 := ⟨wt_369, wt_368, ws_2, wt_2, ⟨by decide +kernel, by decide +kernel, by decide +kernel⟩⟩
theorem mfX5_refuse : MF yX5_refuse cX5_refuse 3 (some .boolean) 2 := ⟨wt_389, wt_388, ws_7, wt_2, ⟨by decide +kernel, by decide +kernel, by decide +kernel⟩⟩
theorem mfX5_nextToken : MF yX5_nextToken cX5_nextToken 2 (some .boolean) 0 := ⟨wt_377, wt_376, ws_4, wt_2, ⟨by decide +kernel, by decide +kernel, by decide +kernel⟩⟩
theorem mfX5_isName : MF yX5_isName cX5_isName 2 (some .boolean) 1 := ⟨wt_398, wt_397, ws_9, wt_2, ⟨by decide +kernel, by decide +kernel, by decide +kernel⟩⟩
theorem mfX5_readLine : MF yX5_readLine cX5_readLine 1 (some .boolean) 0 := ⟨wt_393, wt_392, ws_8, wt_2, ⟨by decide +kernel, by decide +kernel, by decide +kernel⟩⟩
theorem mfX5_readStart : MF yX5_readStart cX5_readStart 1 (some .boolean) 0 := ⟨wt_454, wt_453, ws_11, wt_2, ⟨by decide +kernel, by decide +kernel, by decide +kernel⟩⟩
theorem mfX5_readStretch : MF yX5_readStretch cX5_readStretch 2 (some .boolean) 0 := ⟨wt_471, wt_470, ws_15, wt_2, ⟨by decide +kernel, by decide +kernel, by decide +kernel⟩⟩
theorem mfX5_readBearer : MF yX5_readBearer cX5_readBearer 3 (some .boolean) 0 := ⟨wt_480, wt_479, ws_17, wt_2, ⟨by decide +kernel, by decide +kernel, by decide +kernel⟩⟩
theorem mfX5_readCarry : MF yX5_readCarry cX5_readCarry 3 (some .boolean) 0 := ⟨wt_499, wt_498, ws_20, wt_2, ⟨by decide +kernel, by decide +kernel, by decide +kernel⟩⟩
theorem mfX5_kind : MF yX5_kind cX5_kind 1 (some .int) 0 := ⟨wt_484, wt_483, ws_18, wt_2, ⟨by decide +kernel, by decide +kernel, by decide +kernel⟩⟩
theorem mfX5_nextNumber : MF yX5_nextNumber cX5_nextNumber 4 (some .boolean) 2 := ⟨wt_458, wt_457, ws_12, wt_2, ⟨by decide +kernel, by decide +kernel, by decide +kernel⟩⟩
theorem mfX5_nextStop : MF yX5_nextStop cX5_nextStop 1 (some .boolean) 0 := ⟨wt_466, wt_465, ws_14, wt_2, ⟨by decide +kernel, by decide +kernel, by decide +kernel⟩⟩
theorem mfX5_value : MF yX5_value cX5_value 3 (some .int) 0 := ⟨wt_462, wt_461, ws_13, wt_2, ⟨by decide +kernel, by decide +kernel, by decide +kernel⟩⟩
theorem mfX5_lookBehindAll : MF yX5_lookBehindAll cX5_lookBehindAll 1 none 0 := ⟨wt_506, wt_505, ws_21, wt_2, ⟨by decide +kernel, by decide +kernel, by decide +kernel⟩⟩
theorem mfX6_init : MFI yX6_init cX6_init 1 0 := ⟨wt_273, wt_272, wt_11, rfl, ⟨by decide +kernel, by decide +kernel, by decide +kernel⟩⟩
theorem mfX6_isSheet : MFS yX6_isSheet cX6_isSheet 1 (some .boolean) 1 := ⟨wt_825, wt_824, wt_11, ⟨by decide +kernel, by decide +kernel, by decide +kernel⟩⟩
theorem mfX6_isLane : MFS yX6_isLane cX6_isLane 1 (some .boolean) 1 := ⟨wt_828, wt_827, wt_11, ⟨by decide +kernel, by decide +kernel, by decide +kernel⟩⟩
theorem mfX6_renew : MF yX6_renew cX6_renew 5 none 3 := ⟨wt_832, wt_831, ws_53, wt_11, ⟨by decide +kernel, by decide +kernel, by decide +kernel⟩⟩
theorem mfX6_sizeOf : MF yX6_sizeOf cX6_sizeOf 2 (some .int) 1 := ⟨wt_867, wt_866, ws_57, wt_11, ⟨by decide +kernel, by decide +kernel, by decide +kernel⟩⟩
theorem mfX6_faultAt : MF yX6_faultAt cX6_faultAt 4 (some .int) 2 := ⟨wt_841, wt_840, ws_54, wt_11, ⟨by decide +kernel, by decide +kernel, by decide +kernel⟩⟩
theorem mfX6_fill : MF yX6_fill cX6_fill 4 none 3 := ⟨wt_845, wt_844, ws_55, wt_11, ⟨by decide +kernel, by decide +kernel, by decide +kernel⟩⟩
theorem mfX6_takePairs : MF yX6_takePairs cX6_takePairs 8 none 4 := ⟨wt_854, wt_853, ws_56, wt_11, ⟨by decide +kernel, by decide +kernel, by decide +kernel⟩⟩
theorem mfX7_init : MFI yX7_init cX7_init 1 0 := ⟨wt_38, wt_37, wt_3, rfl, ⟨by decide +kernel, by decide +kernel, by decide +kernel⟩⟩
theorem mfX7_addBytes : MF yX7_addBytes cX7_addBytes 4 (some .boolean) 1 := ⟨wt_352, wt_351, ws_0, wt_3, ⟨by decide +kernel, by decide +kernel, by decide +kernel⟩⟩
theorem mfX7_byteAt : MF yX7_byteAt cX7_byteAt 2 (some .int) 1 := ⟨wt_385, wt_384, ws_6, wt_3, ⟨by decide +kernel, by decide +kernel, by decide +kernel⟩⟩
theorem mfX7_says : MF yX7_says cX7_says 5 (some .boolean) 3 := ⟨wt_402, wt_401, ws_10, wt_3, ⟨by decide +kernel, by decide +kernel, by decide +kernel⟩⟩
theorem mfX7_pastAll : MF yX7_pastAll cX7_pastAll 5 (some .int) 3 := ⟨wt_381, wt_380, ws_5, wt_3, ⟨by decide +kernel, by decide +kernel, by decide +kernel⟩⟩
theorem mfX8_init : MFI yX8_init cX8_init 1 0 := ⟨wt_255, wt_254, wt_10, rfl, ⟨by decide +kernel, by decide +kernel, by decide +kernel⟩⟩
theorem mfX8_explore : MF yX8_explore cX8_explore 4 none 2 := ⟨wt_770, wt_769, ws_46, wt_10, ⟨by decide +kernel, by decide +kernel, by decide +kernel⟩⟩
theorem mfX8_dropUnmarked : MFS yX8_dropUnmarked cX8_dropUnmarked 4 none 3 := ⟨wt_779, wt_778, wt_10, ⟨by decide +kernel, by decide +kernel, by decide +kernel⟩⟩
theorem mfX8_leadInto : MF yX8_leadInto cX8_leadInto 4 none 2 := ⟨wt_775, wt_774, ws_47, wt_10, ⟨by decide +kernel, by decide +kernel, by decide +kernel⟩⟩
theorem mfX8_leadOnward : MF yX8_leadOnward cX8_leadOnward 6 none 2 := ⟨wt_787, wt_786, ws_49, wt_10, ⟨by decide +kernel, by decide +kernel, by decide +kernel⟩⟩
theorem mfX8_canBeBehind : MF yX8_canBeBehind cX8_canBeBehind 3 (some .boolean) 2 := ⟨wt_795, wt_794, ws_50, wt_10, ⟨by decide +kernel, by decide +kernel, by decide +kernel⟩⟩
theorem mfX8_falling : MF yX8_falling cX8_falling 5 (some .int) 2 := ⟨wt_803, wt_802, ws_51, wt_10, ⟨by decide +kernel, by decide +kernel, by decide +kernel⟩⟩
theorem mfX8_rising : MF yX8_rising cX8_rising 5 (some .int) 2 := ⟨wt_807, wt_806, ws_52, wt_10, ⟨by decide +kernel, by decide +kernel, by decide +kernel⟩⟩
theorem mfX9_init : MFI yX9_init cX9_init 1 0 := ⟨wt_54, wt_53, wt_4, rfl, ⟨by decide +kernel, by decide +kernel, by decide +kernel⟩⟩
theorem mfX9_clear : MF yX9_clear cX9_clear 2 none 0 := ⟨wt_373, wt_372, ws_3, wt_4, ⟨by decide +kernel, by decide +kernel, by decide +kernel⟩⟩
theorem mfX9_copyOf : MF yX9_copyOf cX9_copyOf 2 none 1 := ⟨wt_510, wt_509, ws_22, wt_4, ⟨by decide +kernel, by decide +kernel, by decide +kernel⟩⟩
theorem mfX9_hasStretch : MF yX9_hasStretch cX9_hasStretch 2 (some .boolean) 1 := ⟨wt_530, wt_529, ws_23, wt_4, ⟨by decide +kernel, by decide +kernel, by decide +kernel⟩⟩
theorem mfX9_hasBearer : MF yX9_hasBearer cX9_hasBearer 2 (some .boolean) 1 := ⟨wt_538, wt_537, ws_24, wt_4, ⟨by decide +kernel, by decide +kernel, by decide +kernel⟩⟩
theorem mfX9_addStretch : MF yX9_addStretch cX9_addStretch 3 none 2 := ⟨wt_475, wt_474, ws_16, wt_4, ⟨by decide +kernel, by decide +kernel, by decide +kernel⟩⟩
theorem mfX9_addBearer : MF yX9_addBearer cX9_addBearer 4 none 3 := ⟨wt_494, wt_493, ws_19, wt_4, ⟨by decide +kernel, by decide +kernel, by decide +kernel⟩⟩
theorem mfX9_canHand : MF yX9_canHand cX9_canHand 4 (some .boolean) 3 := ⟨wt_573, wt_572, ws_25, wt_4, ⟨by decide +kernel, by decide +kernel, by decide +kernel⟩⟩
theorem mfX9_harmBy : MF yX9_harmBy cX9_harmBy 4 (some .int) 3 := ⟨wt_579, wt_578, ws_26, wt_4, ⟨by decide +kernel, by decide +kernel, by decide +kernel⟩⟩
theorem mfX9_noiseBy : MF yX9_noiseBy cX9_noiseBy 4 (some .int) 2 := ⟨wt_584, wt_583, ws_27, wt_4, ⟨by decide +kernel, by decide +kernel, by decide +kernel⟩⟩
theorem mfX9_coldBy : MF yX9_coldBy cX9_coldBy 4 (some .int) 2 := ⟨wt_589, wt_588, ws_28, wt_4, ⟨by decide +kernel, by decide +kernel, by decide +kernel⟩⟩
theorem mfX9_joltBy : MF yX9_joltBy cX9_joltBy 4 (some .int) 2 := ⟨wt_593, wt_592, ws_29, wt_4, ⟨by decide +kernel, by decide +kernel, by decide +kernel⟩⟩
theorem mfX9_harmInOrder : MF yX9_harmInOrder cX9_harmInOrder 2 (some .int) 1 := ⟨wt_628, wt_627, ws_34, wt_4, ⟨by decide +kernel, by decide +kernel, by decide +kernel⟩⟩
theorem mfX9_exchange : MF yX9_exchange cX9_exchange 4 none 2 := ⟨wt_718, wt_717, ws_41, wt_4, ⟨by decide +kernel, by decide +kernel, by decide +kernel⟩⟩
theorem mfX9_handOvers : MF yX9_handOvers cX9_handOvers 3 (some .int) 0 := ⟨wt_871, wt_870, ws_58, wt_4, ⟨by decide +kernel, by decide +kernel, by decide +kernel⟩⟩
theorem mfX10_init : MFI yX10_init cX10_init 2 0 := ⟨wt_24, wt_23, wt_1, rfl, ⟨by decide +kernel, by decide +kernel, by decide +kernel⟩⟩
theorem mfX10_feed : MF yX10_feed cX10_feed 3 (some .int) 1 := ⟨wt_348, wt_346, wt_347, wt_1, ⟨by decide +kernel, by decide +kernel, by decide +kernel⟩⟩
theorem mfX10_end : MF yX10_end cX10_end 3 (some .int) 1 := ⟨wt_357, wt_355, wt_356, wt_1, ⟨by decide +kernel, by decide +kernel, by decide +kernel⟩⟩
theorem mfX10_text : MF yX10_text cX10_text 2 (some .int) 0 := ⟨wt_361, wt_359, wt_360, wt_1, ⟨by decide +kernel, by decide +kernel, by decide +kernel⟩⟩
theorem mfX10_fault : MF yX10_fault cX10_fault 1 (some .int) 0 := ⟨wt_518, wt_516, wt_517, wt_1, ⟨by decide +kernel, by decide +kernel, by decide +kernel⟩⟩
theorem mfX10_rule : MF yX10_rule cX10_rule 2 (some .int) 1 := ⟨wt_522, wt_520, wt_521, wt_1, ⟨by decide +kernel, by decide +kernel, by decide +kernel⟩⟩
theorem mfX10_stretch : MF yX10_stretch cX10_stretch 3 (some .int) 2 := ⟨wt_526, wt_524, wt_525, wt_1, ⟨by decide +kernel, by decide +kernel, by decide +kernel⟩⟩
theorem mfX10_bearer : MF yX10_bearer cX10_bearer 3 (some .int) 2 := ⟨wt_534, wt_532, wt_533, wt_1, ⟨by decide +kernel, by decide +kernel, by decide +kernel⟩⟩
theorem mfX10_start : MF yX10_start cX10_start 3 (some .int) 1 := ⟨wt_542, wt_540, wt_541, wt_1, ⟨by decide +kernel, by decide +kernel, by decide +kernel⟩⟩
theorem mfX10_noise : MF yX10_noise cX10_noise 3 (some .int) 2 := ⟨wt_546, wt_544, wt_545, wt_1, ⟨by decide +kernel, by decide +kernel, by decide +kernel⟩⟩
theorem mfX10_cold : MF yX10_cold cX10_cold 3 (some .int) 2 := ⟨wt_553, wt_551, wt_552, wt_1, ⟨by decide +kernel, by decide +kernel, by decide +kernel⟩⟩
theorem mfX10_step : MF yX10_step cX10_step 3 (some .int) 2 := ⟨wt_557, wt_555, wt_556, wt_1, ⟨by decide +kernel, by decide +kernel, by decide +kernel⟩⟩
theorem mfX10_warm : MF yX10_warm cX10_warm 3 (some .int) 2 := ⟨wt_561, wt_559, wt_560, wt_1, ⟨by decide +kernel, by decide +kernel, by decide +kernel⟩⟩
theorem mfX10_put : MF yX10_put cX10_put 4 (some .int) 2 := ⟨wt_565, wt_563, wt_564, wt_1, ⟨by decide +kernel, by decide +kernel, by decide +kernel⟩⟩
theorem mfX10_change : MFS yX10_change cX10_change 4 (some .int) 3 := ⟨wt_549, wt_548, wt_1, ⟨by decide +kernel, by decide +kernel, by decide +kernel⟩⟩
theorem mfX10_harm : MF yX10_harm cX10_harm 4 (some .int) 3 := ⟨wt_569, wt_567, wt_568, wt_1, ⟨by decide +kernel, by decide +kernel, by decide +kernel⟩⟩
theorem mfX10_wakes : MF yX10_wakes cX10_wakes 2 (some .long) 1 := ⟨wt_603, wt_601, wt_602, wt_1, ⟨by decide +kernel, by decide +kernel, by decide +kernel⟩⟩
theorem mfX10_awake : MF yX10_awake cX10_awake 3 (some .long) 2 := ⟨wt_644, wt_642, wt_643, wt_1, ⟨by decide +kernel, by decide +kernel, by decide +kernel⟩⟩
theorem mfX10_depth : MF yX10_depth cX10_depth 4 (some .long) 3 := ⟨wt_648, wt_646, wt_647, wt_1, ⟨by decide +kernel, by decide +kernel, by decide +kernel⟩⟩
theorem mfX10_best : MF yX10_best cX10_best 2 (some .long) 1 := ⟨wt_656, wt_654, wt_655, wt_1, ⟨by decide +kernel, by decide +kernel, by decide +kernel⟩⟩
theorem mfX10_next : MF yX10_next cX10_next 5 (some .int) 3 := ⟨wt_683, wt_681, wt_682, wt_1, ⟨by decide +kernel, by decide +kernel, by decide +kernel⟩⟩
theorem mfX10_without : MF yX10_without cX10_without 3 (some .long) 2 := ⟨wt_688, wt_686, wt_687, wt_1, ⟨by decide +kernel, by decide +kernel, by decide +kernel⟩⟩
theorem mfX10_quiet : MF yX10_quiet cX10_quiet 10 (some .long) 2 := ⟨wt_693, wt_691, wt_692, wt_1, ⟨by decide +kernel, by decide +kernel, by decide +kernel⟩⟩
theorem mfX10_stopNoises : MF yX10_stopNoises cX10_stopNoises 3 none 1 := ⟨wt_706, wt_705, ws_40, wt_1, ⟨by decide +kernel, by decide +kernel, by decide +kernel⟩⟩
theorem mfX10_drop : MF yX10_drop cX10_drop 8 (some .long) 1 := ⟨wt_710, wt_708, wt_709, wt_1, ⟨by decide +kernel, by decide +kernel, by decide +kernel⟩⟩
theorem mfX10_swap : MF yX10_swap cX10_swap 9 (some .long) 1 := ⟨wt_714, wt_712, wt_713, wt_1, ⟨by decide +kernel, by decide +kernel, by decide +kernel⟩⟩
theorem mfX10_carry : MF yX10_carry cX10_carry 3 (some .int) 2 := ⟨wt_722, wt_720, wt_721, wt_1, ⟨by decide +kernel, by decide +kernel, by decide +kernel⟩⟩
theorem mfX10_learn : MF yX10_learn cX10_learn 5 (some .int) 4 := ⟨wt_733, wt_731, wt_732, wt_1, ⟨by decide +kernel, by decide +kernel, by decide +kernel⟩⟩
theorem mfX10_forget : MF yX10_forget cX10_forget 3 (some .int) 1 := ⟨wt_741, wt_739, wt_740, wt_1, ⟨by decide +kernel, by decide +kernel, by decide +kernel⟩⟩
theorem mfX10_steps : MF yX10_steps cX10_steps 7 (some .int) 2 := ⟨wt_745, wt_743, wt_744, wt_1, ⟨by decide +kernel, by decide +kernel, by decide +kernel⟩⟩
theorem mfX10_mark : MF yX10_mark cX10_mark 3 (some .int) 2 := ⟨wt_754, wt_752, wt_753, wt_1, ⟨by decide +kernel, by decide +kernel, by decide +kernel⟩⟩
theorem mfX10_wipe : MF yX10_wipe cX10_wipe 3 (some .int) 1 := ⟨wt_762, wt_760, wt_761, wt_1, ⟨by decide +kernel, by decide +kernel, by decide +kernel⟩⟩
theorem mfX10_paths : MF yX10_paths cX10_paths 1 (some .int) 0 := ⟨wt_766, wt_764, wt_765, wt_1, ⟨by decide +kernel, by decide +kernel, by decide +kernel⟩⟩
theorem mfX10_eye : MF yX10_eye cX10_eye 4 (some .int) 1 := ⟨wt_791, wt_789, wt_790, wt_1, ⟨by decide +kernel, by decide +kernel, by decide +kernel⟩⟩
theorem mfX10_sure : MF yX10_sure cX10_sure 5 (some .int) 1 := ⟨wt_799, wt_797, wt_798, wt_1, ⟨by decide +kernel, by decide +kernel, by decide +kernel⟩⟩
theorem mfX10_keep : MF yX10_keep cX10_keep 3 (some .int) 1 := ⟨wt_811, wt_809, wt_810, wt_1, ⟨by decide +kernel, by decide +kernel, by decide +kernel⟩⟩
theorem mfX10_back : MF yX10_back cX10_back 2 (some .int) 1 := ⟨wt_818, wt_816, wt_817, wt_1, ⟨by decide +kernel, by decide +kernel, by decide +kernel⟩⟩
theorem mfX10_sheet : MF yX10_sheet cX10_sheet 4 (some .int) 3 := ⟨wt_822, wt_820, wt_821, wt_1, ⟨by decide +kernel, by decide +kernel, by decide +kernel⟩⟩
theorem mfX10_lay : MF yX10_lay cX10_lay 5 (some .int) 3 := ⟨wt_837, wt_835, wt_836, wt_1, ⟨by decide +kernel, by decide +kernel, by decide +kernel⟩⟩
theorem mfX10_read : MF yX10_read cX10_read 6 (some .int) 4 := ⟨wt_850, wt_848, wt_849, wt_1, ⟨by decide +kernel, by decide +kernel, by decide +kernel⟩⟩
theorem mfX10_torn : MF yX10_torn cX10_torn 1 (some .int) 0 := ⟨wt_859, wt_857, wt_858, wt_1, ⟨by decide +kernel, by decide +kernel, by decide +kernel⟩⟩
theorem mfX10_count : MF yX10_count cX10_count 2 (some .int) 1 := ⟨wt_863, wt_861, wt_862, wt_1, ⟨by decide +kernel, by decide +kernel, by decide +kernel⟩⟩
theorem mfX10_isFractionPart : MFS yX10_isFractionPart cX10_isFractionPart 1 (some .boolean) 1 := ⟨wt_606, wt_605, wt_1, ⟨by decide +kernel, by decide +kernel, by decide +kernel⟩⟩
theorem mfX10_isAnswerPart : MFS yX10_isAnswerPart cX10_isAnswerPart 1 (some .boolean) 1 := ⟨wt_696, wt_695, wt_1, ⟨by decide +kernel, by decide +kernel, by decide +kernel⟩⟩
theorem mfX10_isDepth : MFS yX10_isDepth cX10_isDepth 1 (some .boolean) 1 := ⟨wt_651, wt_650, wt_1, ⟨by decide +kernel, by decide +kernel, by decide +kernel⟩⟩
theorem mfX10_isImage : MFS yX10_isImage cX10_isImage 1 (some .boolean) 1 := ⟨wt_814, wt_813, wt_1, ⟨by decide +kernel, by decide +kernel, by decide +kernel⟩⟩
theorem mfX10_fraction : MFS yX10_fraction cX10_fraction 7 (some .long) 3 := ⟨wt_637, wt_636, wt_1, ⟨by decide +kernel, by decide +kernel, by decide +kernel⟩⟩
theorem mfX10_commonDivisor : MFS yX10_commonDivisor cX10_commonDivisor 11 (some .long) 2 := ⟨wt_640, wt_639, wt_1, ⟨by decide +kernel, by decide +kernel, by decide +kernel⟩⟩
theorem mfX11_init : MFI yX11_init cX11_init 1 0 := ⟨wt_876, wt_875, wt_12, rfl, ⟨by decide +kernel, by decide +kernel, by decide +kernel⟩⟩
theorem mfX11_in : MFS yX11_in cX11_in 6 (some .boolean) 3 := ⟨wt_994, wt_993, wt_12, ⟨by decide +kernel, by decide +kernel, by decide +kernel⟩⟩
theorem mfX11_feed : MF yX11_feed cX11_feed 4 (some .int) 1 := ⟨wt_987, wt_985, wt_986, wt_12, ⟨by decide +kernel, by decide +kernel, by decide +kernel⟩⟩
theorem mfX11_end : MF yX11_end cX11_end 3 (some .int) 1 := ⟨wt_991, wt_989, wt_990, wt_12, ⟨by decide +kernel, by decide +kernel, by decide +kernel⟩⟩
theorem mfX11_byteAt : MF yX11_byteAt cX11_byteAt 2 (some .int) 1 := ⟨wt_1006, wt_1005, ws_60, wt_12, ⟨by decide +kernel, by decide +kernel, by decide +kernel⟩⟩
theorem mfX11_fails : MF yX11_fails cX11_fails 2 none 1 := ⟨wt_1014, wt_1013, ws_61, wt_12, ⟨by decide +kernel, by decide +kernel, by decide +kernel⟩⟩
theorem mfX11_nameHere : MF yX11_nameHere cX11_nameHere 4 (some .int) 0 := ⟨wt_1022, wt_1021, ws_63, wt_12, ⟨by decide +kernel, by decide +kernel, by decide +kernel⟩⟩
theorem mfX11_goesOn : MF yX11_goesOn cX11_goesOn 2 none 0 := ⟨wt_1002, wt_1001, ws_59, wt_12, ⟨by decide +kernel, by decide +kernel, by decide +kernel⟩⟩
theorem mfX11_other : MF yX11_other cX11_other 5 (some .int) 3 := ⟨wt_1031, wt_1030, ws_65, wt_12, ⟨by decide +kernel, by decide +kernel, by decide +kernel⟩⟩
theorem mfX11_readBearer : MF yX11_readBearer cX11_readBearer 3 none 0 := ⟨wt_1027, wt_1026, ws_64, wt_12, ⟨by decide +kernel, by decide +kernel, by decide +kernel⟩⟩
theorem mfX11_readMore : MF yX11_readMore cX11_readMore 4 none 1 := ⟨wt_1035, wt_1034, ws_66, wt_12, ⟨by decide +kernel, by decide +kernel, by decide +kernel⟩⟩
theorem mfX11_readLine : MF yX11_readLine cX11_readLine 2 none 0 := ⟨wt_1018, wt_1017, ws_62, wt_12, ⟨by decide +kernel, by decide +kernel, by decide +kernel⟩⟩
theorem mfX11_text : MF yX11_text cX11_text 3 (some .int) 0 := ⟨wt_998, wt_996, wt_997, wt_12, ⟨by decide +kernel, by decide +kernel, by decide +kernel⟩⟩
theorem mfX11_fault : MF yX11_fault cX11_fault 1 (some .int) 0 := ⟨wt_1039, wt_1037, wt_1038, wt_12, ⟨by decide +kernel, by decide +kernel, by decide +kernel⟩⟩
theorem mfX11_isStretch : MF yX11_isStretch cX11_isStretch 2 (some .boolean) 1 := ⟨wt_1055, wt_1054, ws_68, wt_12, ⟨by decide +kernel, by decide +kernel, by decide +kernel⟩⟩
theorem mfX11_isBearer : MF yX11_isBearer cX11_isBearer 2 (some .boolean) 1 := ⟨wt_1064, wt_1063, ws_69, wt_12, ⟨by decide +kernel, by decide +kernel, by decide +kernel⟩⟩
theorem mfX11_startNow : MF yX11_startNow cX11_startNow 1 (some .int) 0 := ⟨wt_1047, wt_1046, ws_67, wt_12, ⟨by decide +kernel, by decide +kernel, by decide +kernel⟩⟩
theorem mfX11_rule : MF yX11_rule cX11_rule 2 (some .int) 1 := ⟨wt_1043, wt_1041, wt_1042, wt_12, ⟨by decide +kernel, by decide +kernel, by decide +kernel⟩⟩
theorem mfX11_stretch : MF yX11_stretch cX11_stretch 3 (some .int) 2 := ⟨wt_1051, wt_1049, wt_1050, wt_12, ⟨by decide +kernel, by decide +kernel, by decide +kernel⟩⟩
theorem mfX11_bearer : MF yX11_bearer cX11_bearer 3 (some .int) 2 := ⟨wt_1060, wt_1058, wt_1059, wt_12, ⟨by decide +kernel, by decide +kernel, by decide +kernel⟩⟩
theorem mfX11_sets : MF yX11_sets cX11_sets 5 (some .int) 3 := ⟨wt_1073, wt_1072, ws_70, wt_12, ⟨by decide +kernel, by decide +kernel, by decide +kernel⟩⟩
theorem mfX11_start : MF yX11_start cX11_start 2 (some .int) 1 := ⟨wt_1068, wt_1066, wt_1067, wt_12, ⟨by decide +kernel, by decide +kernel, by decide +kernel⟩⟩
theorem mfX11_noise : MF yX11_noise cX11_noise 3 (some .int) 2 := ⟨wt_1077, wt_1075, wt_1076, wt_12, ⟨by decide +kernel, by decide +kernel, by decide +kernel⟩⟩
theorem mfX11_cold : MF yX11_cold cX11_cold 3 (some .int) 2 := ⟨wt_1081, wt_1079, wt_1080, wt_12, ⟨by decide +kernel, by decide +kernel, by decide +kernel⟩⟩
theorem mfX11_step : MF yX11_step cX11_step 3 (some .int) 2 := ⟨wt_1085, wt_1083, wt_1084, wt_12, ⟨by decide +kernel, by decide +kernel, by decide +kernel⟩⟩
theorem mfX11_warm : MF yX11_warm cX11_warm 3 (some .int) 2 := ⟨wt_1089, wt_1087, wt_1088, wt_12, ⟨by decide +kernel, by decide +kernel, by decide +kernel⟩⟩
theorem mfX11_puts : MF yX11_puts cX11_puts 3 (some .int) 2 := ⟨wt_1097, wt_1096, ws_71, wt_12, ⟨by decide +kernel, by decide +kernel, by decide +kernel⟩⟩
theorem mfX11_put : MF yX11_put cX11_put 3 (some .int) 2 := ⟨wt_1093, wt_1091, wt_1092, wt_12, ⟨by decide +kernel, by decide +kernel, by decide +kernel⟩⟩
theorem mfX11_kindOf : MF yX11_kindOf cX11_kindOf 2 (some .int) 1 := ⟨wt_1113, wt_1112, ws_74, wt_12, ⟨by decide +kernel, by decide +kernel, by decide +kernel⟩⟩
theorem mfX11_harmOf : MF yX11_harmOf cX11_harmOf 10 (some .int) 4 := ⟨wt_1109, wt_1108, ws_73, wt_12, ⟨by decide +kernel, by decide +kernel, by decide +kernel⟩⟩
theorem mfX11_canHarm : MF yX11_canHarm cX11_canHarm 4 (some .boolean) 3 := ⟨wt_1105, wt_1104, ws_72, wt_12, ⟨by decide +kernel, by decide +kernel, by decide +kernel⟩⟩
theorem mfX11_harm : MF yX11_harm cX11_harm 4 (some .int) 3 := ⟨wt_1101, wt_1099, wt_1100, wt_12, ⟨by decide +kernel, by decide +kernel, by decide +kernel⟩⟩
theorem mfX11_orderedHarm : MF yX11_orderedHarm cX11_orderedHarm 3 (some .int) 2 := ⟨wt_1126, wt_1125, ws_76, wt_12, ⟨by decide +kernel, by decide +kernel, by decide +kernel⟩⟩
theorem mfX11_power : MFS yX11_power cX11_power 4 (some .long) 1 := ⟨wt_1133, wt_1132, wt_12, ⟨by decide +kernel, by decide +kernel, by decide +kernel⟩⟩
theorem mfX11_deeper : MFS yX11_deeper cX11_deeper 2 (some .int) 2 := ⟨wt_1130, wt_1129, wt_12, ⟨by decide +kernel, by decide +kernel, by decide +kernel⟩⟩
theorem mfX11_layOdds : MF yX11_layOdds cX11_layOdds 8 none 3 := ⟨wt_1122, wt_1121, ws_75, wt_12, ⟨by decide +kernel, by decide +kernel, by decide +kernel⟩⟩
theorem mfX11_lowest : MFS yX11_lowest cX11_lowest 11 (some .long) 3 := ⟨wt_1136, wt_1135, wt_12, ⟨by decide +kernel, by decide +kernel, by decide +kernel⟩⟩
theorem mfX11_wakes : MF yX11_wakes cX11_wakes 2 (some .long) 1 := ⟨wt_1117, wt_1115, wt_1116, wt_12, ⟨by decide +kernel, by decide +kernel, by decide +kernel⟩⟩
theorem mfX11_awake : MF yX11_awake cX11_awake 3 (some .long) 2 := ⟨wt_1140, wt_1138, wt_1139, wt_12, ⟨by decide +kernel, by decide +kernel, by decide +kernel⟩⟩
theorem mfX11_depth : MF yX11_depth cX11_depth 4 (some .long) 3 := ⟨wt_1144, wt_1142, wt_1143, wt_12, ⟨by decide +kernel, by decide +kernel, by decide +kernel⟩⟩
theorem mfX11_bestAt : MFS yX11_bestAt cX11_bestAt 3 (some .int) 3 := ⟨wt_1161, wt_1160, wt_12, ⟨by decide +kernel, by decide +kernel, by decide +kernel⟩⟩
theorem mfX11_byOne : MF yX11_byOne cX11_byOne 6 (some .long) 4 := ⟨wt_1158, wt_1157, ws_78, wt_12, ⟨by decide +kernel, by decide +kernel, by decide +kernel⟩⟩
theorem mfX11_layBest : MF yX11_layBest cX11_layBest 8 none 1 := ⟨wt_1153, wt_1152, ws_77, wt_12, ⟨by decide +kernel, by decide +kernel, by decide +kernel⟩⟩
theorem mfX11_best : MF yX11_best cX11_best 2 (some .long) 1 := ⟨wt_1149, wt_1147, wt_1148, wt_12, ⟨by decide +kernel, by decide +kernel, by decide +kernel⟩⟩
theorem mfX11_next : MF yX11_next cX11_next 5 (some .int) 3 := ⟨wt_1165, wt_1163, wt_1164, wt_12, ⟨by decide +kernel, by decide +kernel, by decide +kernel⟩⟩
theorem mfX11_without : MF yX11_without cX11_without 3 (some .long) 2 := ⟨wt_1169, wt_1167, wt_1168, wt_12, ⟨by decide +kernel, by decide +kernel, by decide +kernel⟩⟩
theorem mfX11_bitsOf : MFS yX11_bitsOf cX11_bitsOf 3 (some .int) 1 := ⟨wt_1178, wt_1177, wt_12, ⟨by decide +kernel, by decide +kernel, by decide +kernel⟩⟩
theorem mfX11_quiet : MF yX11_quiet cX11_quiet 7 (some .long) 2 := ⟨wt_1174, wt_1172, wt_1173, wt_12, ⟨by decide +kernel, by decide +kernel, by decide +kernel⟩⟩
theorem mfX11_drop : MF yX11_drop cX11_drop 6 (some .long) 1 := ⟨wt_1182, wt_1180, wt_1181, wt_12, ⟨by decide +kernel, by decide +kernel, by decide +kernel⟩⟩
theorem mfX11_changes : MF yX11_changes cX11_changes 4 none 2 := ⟨wt_1190, wt_1189, ws_79, wt_12, ⟨by decide +kernel, by decide +kernel, by decide +kernel⟩⟩
theorem mfX11_swap : MF yX11_swap cX11_swap 7 (some .long) 1 := ⟨wt_1186, wt_1184, wt_1185, wt_12, ⟨by decide +kernel, by decide +kernel, by decide +kernel⟩⟩
theorem mfX11_carry : MF yX11_carry cX11_carry 9 (some .int) 2 := ⟨wt_1194, wt_1192, wt_1193, wt_12, ⟨by decide +kernel, by decide +kernel, by decide +kernel⟩⟩
theorem mfX11_learn : MF yX11_learn cX11_learn 6 (some .int) 4 := ⟨wt_1199, wt_1197, wt_1198, wt_12, ⟨by decide +kernel, by decide +kernel, by decide +kernel⟩⟩
theorem mfX11_forget : MF yX11_forget cX11_forget 3 (some .int) 1 := ⟨wt_1203, wt_1201, wt_1202, wt_12, ⟨by decide +kernel, by decide +kernel, by decide +kernel⟩⟩
theorem mfX11_steps : MF yX11_steps cX11_steps 11 (some .int) 2 := ⟨wt_1207, wt_1205, wt_1206, wt_12, ⟨by decide +kernel, by decide +kernel, by decide +kernel⟩⟩
theorem mfX11_mark : MF yX11_mark cX11_mark 3 (some .int) 2 := ⟨wt_1211, wt_1209, wt_1210, wt_12, ⟨by decide +kernel, by decide +kernel, by decide +kernel⟩⟩
theorem mfX11_wipe : MF yX11_wipe cX11_wipe 3 (some .int) 1 := ⟨wt_1215, wt_1213, wt_1214, wt_12, ⟨by decide +kernel, by decide +kernel, by decide +kernel⟩⟩
theorem mfX11_isMarked : MF yX11_isMarked cX11_isMarked 5 (some .boolean) 2 := ⟨wt_1231, wt_1230, ws_82, wt_12, ⟨by decide +kernel, by decide +kernel, by decide +kernel⟩⟩
theorem mfX11_depthThen : MF yX11_depthThen cX11_depthThen 6 (some .int) 3 := ⟨wt_1227, wt_1226, ws_81, wt_12, ⟨by decide +kernel, by decide +kernel, by decide +kernel⟩⟩
theorem mfX11_layPaths : MF yX11_layPaths cX11_layPaths 6 none 0 := ⟨wt_1223, wt_1222, ws_80, wt_12, ⟨by decide +kernel, by decide +kernel, by decide +kernel⟩⟩
theorem mfX11_onward : MF yX11_onward cX11_onward 5 (some .int) 3 := ⟨wt_1235, wt_1234, ws_83, wt_12, ⟨by decide +kernel, by decide +kernel, by decide +kernel⟩⟩
theorem mfX11_paths : MF yX11_paths cX11_paths 1 (some .int) 0 := ⟨wt_1219, wt_1217, wt_1218, wt_12, ⟨by decide +kernel, by decide +kernel, by decide +kernel⟩⟩
theorem mfX11_eye : MF yX11_eye cX11_eye 4 (some .int) 1 := ⟨wt_1239, wt_1237, wt_1238, wt_12, ⟨by decide +kernel, by decide +kernel, by decide +kernel⟩⟩
theorem mfX11_sure : MF yX11_sure cX11_sure 7 (some .int) 1 := ⟨wt_1243, wt_1241, wt_1242, wt_12, ⟨by decide +kernel, by decide +kernel, by decide +kernel⟩⟩
theorem mfX11_copies : MF yX11_copies cX11_copies 4 none 2 := ⟨wt_1251, wt_1250, ws_84, wt_12, ⟨by decide +kernel, by decide +kernel, by decide +kernel⟩⟩
theorem mfX11_keep : MF yX11_keep cX11_keep 3 (some .int) 1 := ⟨wt_1247, wt_1245, wt_1246, wt_12, ⟨by decide +kernel, by decide +kernel, by decide +kernel⟩⟩
theorem mfX11_back : MF yX11_back cX11_back 2 (some .int) 1 := ⟨wt_1255, wt_1253, wt_1254, wt_12, ⟨by decide +kernel, by decide +kernel, by decide +kernel⟩⟩
theorem mfX11_sheet : MF yX11_sheet cX11_sheet 5 (some .int) 3 := ⟨wt_1259, wt_1257, wt_1258, wt_12, ⟨by decide +kernel, by decide +kernel, by decide +kernel⟩⟩
theorem mfX11_lay : MF yX11_lay cX11_lay 4 (some .int) 3 := ⟨wt_1263, wt_1261, wt_1262, wt_12, ⟨by decide +kernel, by decide +kernel, by decide +kernel⟩⟩
theorem mfX11_read : MF yX11_read cX11_read 9 (some .int) 4 := ⟨wt_1267, wt_1265, wt_1266, wt_12, ⟨by decide +kernel, by decide +kernel, by decide +kernel⟩⟩
theorem mfX11_torn : MF yX11_torn cX11_torn 1 (some .int) 0 := ⟨wt_1271, wt_1269, wt_1270, wt_12, ⟨by decide +kernel, by decide +kernel, by decide +kernel⟩⟩
theorem mfX11_count : MF yX11_count cX11_count 4 (some .int) 1 := ⟨wt_1275, wt_1273, wt_1274, wt_12, ⟨by decide +kernel, by decide +kernel, by decide +kernel⟩⟩
theorem mfJ6_bitCount_0f7a4 : MFS yJ6_bitCount_0f7a4 cJ6_bitCount_0f7a4 1 (some .int) 1 := ⟨wt_699, wt_698, wt_19, ⟨by decide +kernel, by decide +kernel, by decide +kernel⟩⟩
theorem mfJ9_abs_0f7a4 : MFS yJ9_abs_0f7a4 cJ9_abs_0f7a4 1 (some .int) 1 := ⟨wt_596, wt_595, wt_17, ⟨by decide +kernel, by decide +kernel, by decide +kernel⟩⟩
theorem mfJ9_max_7cf53 : MFS yJ9_max_7cf53 cJ9_max_7cf53 2 (some .int) 2 := ⟨wt_502, wt_501, wt_17, ⟨by decide +kernel, by decide +kernel, by decide +kernel⟩⟩
theorem mfJ9_min_7cf53 : MFS yJ9_min_7cf53 cJ9_min_7cf53 2 (some .int) 2 := ⟨wt_599, wt_598, wt_17, ⟨by decide +kernel, by decide +kernel, by decide +kernel⟩⟩
theorem mfJ0_length_8abf5 : MF yJ0_length_8abf5 cJ0_length_8abf5 1 (some .int) 0 := ⟨wt_406, wt_404, wt_405, wt_13, ⟨by decide +kernel, by decide +kernel, by decide +kernel⟩⟩
theorem mfJ0_charAt_5068e : MF yJ0_charAt_5068e cJ0_charAt_5068e 2 (some .char) 1 := ⟨wt_416, wt_414, wt_415, wt_13, ⟨by decide +kernel, by decide +kernel, by decide +kernel⟩⟩
theorem mfJ0_coder_7d493 : MF yJ0_coder_7d493 cJ0_coder_7d493 1 (some .byte) 0 := ⟨wt_410, wt_408, wt_409, wt_13, ⟨by decide +kernel, by decide +kernel, by decide +kernel⟩⟩
theorem mfJ0_isLatin1_aae02 : MF yJ0_isLatin1_aae02 cJ0_isLatin1_aae02 1 (some .boolean) 0 := ⟨wt_420, wt_418, wt_419, wt_13, ⟨by decide +kernel, by decide +kernel, by decide +kernel⟩⟩
theorem mfJ0_checkIndex_df160 : MFS yJ0_checkIndex_df160 cJ0_checkIndex_df160 2 none 2 := ⟨wt_426, wt_425, wt_13, ⟨by decide +kernel, by decide +kernel, by decide +kernel⟩⟩
theorem mfJ1_charAt_3b067 : MFS yJ1_charAt_3b067 cJ1_charAt_3b067 2 (some .char) 2 := ⟨wt_423, wt_422, wt_14, ⟨by decide +kernel, by decide +kernel, by decide +kernel⟩⟩
theorem mfJ3_checkIndex_8e157 : MFS yJ3_checkIndex_8e157 cJ3_checkIndex_8e157 3 (some .int) 3 := ⟨wt_431, wt_430, wt_15, ⟨by decide +kernel, by decide +kernel, by decide +kernel⟩⟩

theorem va_nilP {D : va_G} {cl : List vw_C} {H : Heap} : va_P D cl [] H := fun k q h => by simp at h
theorem va_nilD {A : Nat → Prop} : va_D A [] := ⟨fun i j x y h => by simp at h, fun k q h => by simp at h⟩
theorem if10_p {P : Prop} [Decidable P] (h : ¬ (if P then (1 : Int32) else 0) = 0) : P := by
  by_cases q : P
  · exact q
  · rw [if_neg q] at h; exact absurd rfl h
theorem if10_n {P : Prop} [Decidable P] (h : (if P then (1 : Int32) else 0) = 0) : ¬ P := by
  intro q
  rw [if_pos q] at h
  exact absurd h (by decide)
theorem lcm_ge_t {x y : Int64} (h : 0 ≤ lg_cmp x y) : y.toInt ≤ x.toInt := leL ((lg_cmp_ge x y).mp h)
theorem lcm_ge_f {x y : Int64} (h : ¬ 0 ≤ lg_cmp x y) : ¬ y.toInt ≤ x.toInt := nleL (fun q => h ((lg_cmp_ge x y).mpr q))
theorem lcm_gt_t {x y : Int64} (h : 0 < lg_cmp x y) : y.toInt < x.toInt := ltL ((lg_cmp_gt x y).mp h)
theorem lcm_gt_f {x y : Int64} (h : ¬ 0 < lg_cmp x y) : ¬ y.toInt < x.toInt := nltL (fun q => h ((lg_cmp_gt x y).mpr q))
theorem lcm_lt_t {x y : Int64} (h : lg_cmp x y < 0) : x.toInt < y.toInt := ltL ((lg_cmp_lt x y).mp h)
theorem lcm_lt_f {x y : Int64} (h : ¬ lg_cmp x y < 0) : ¬ x.toInt < y.toInt := nltL (fun q => h ((lg_cmp_lt x y).mpr q))
theorem lcm_eq_t {x y : Int64} (h : lg_cmp x y = 0) : x.toInt = y.toInt := congrArg Int64.toInt ((lg_cmp_eq x y).mp h)
theorem lcm_eq_f {x y : Int64} (h : ¬ lg_cmp x y = 0) : ¬ x.toInt = y.toInt := fun q => h ((lg_cmp_eq x y).mpr (Int64.toInt_inj.mp q))
theorem lcm_ne_t {x y : Int64} (h : ¬ lg_cmp x y = 0) : ¬ x.toInt = y.toInt := lcm_eq_f h
theorem l_ii (x : Int32) : x.toInt64.toInt = x.toInt := Int32.toInt_toInt64 x
theorem innI (c : ClassId) (K : Nat) : Jvm.Free.Multi.innerC c K (defaultValue .int) = vp_cell c (K, .inl (fun _ => 0)) := by
  have e : (Array.replicate K (defaultValue .int)) = Array.ofFn (n := K) (fun _ => defaultValue .int) := by
    apply Array.ext
    · simp
    · intro i h1 h2; simp
  show ({ cls := c, slots := Array.replicate K (defaultValue .int), vm := .none } : Cell) = { cls := c, slots := Array.ofFn (n := K) (fun _ => defaultValue .int), vm := .none }
  rw [e]
theorem innL (c : ClassId) (K : Nat) : Jvm.Free.Multi.innerC c K (defaultValue .long) = vp_cell c (K, .inr (.inl (fun _ => 0))) := by
  have e : (Array.replicate K (defaultValue .long)) = Array.ofFn (n := K) (fun _ => defaultValue .long) := by
    apply Array.ext
    · simp
    · intro i h1 h2; simp
  show ({ cls := c, slots := Array.replicate K (defaultValue .long), vm := .none } : Cell) = { cls := c, slots := Array.ofFn (n := K) (fun _ => defaultValue .long), vm := .none }
  rw [e]
section VGN
variable {p : Program} {l : Launch} {e : Env} {R : Room} {s : State} {m : MethodId} {args : Array Value} {below : List Frame} {meth : Method} {c : Code} {H : Heap} {locs : List Loc} {cells slots : Nat} {Q : State → Prop}
variable {cc : ByteArray} {pc : Nat} {ls : Array Slot} {rest : List Value} {D : va_G} {cl : List vw_C} {A : Nat → Prop} {a : Nat} {tys : List (ClassId × FieldType)} {ws : va_W} {H0 : Heap}
theorem va_aldA (hexec : p.tables.exec = Jvm.exec) (hb : c.code = cc) (hK : va_K D cl tys s) (hP : va_P D cl ws H) (q0 t0 : Nat) {cA : ClassId} {ty : FieldType} {n : Nat} {f : Nat → Option Nat} (ha : ws[q0]? = some (a, .inl (cA, n, .inr (.inr (.inr (.inr f)))))) (ht : tys[t0]? = some (cA, .array ty)) {i : Int32} (hin : vp_in i n) (hdg : decode cc pc = .ok (.aaload, 1))
    (kk : W p l e R s m args below meth c H locs cells slots Q (F0 m (pc + 1) ls (va_rf (f i.toNatClampNeg) :: rest))) : W p l e R s m args below meth c H locs cells slots Q (F0 m pc ls (.int i :: .ref a :: rest)) := by
  have hlt : i.toNatClampNeg < n := Nat.not_le.mp fun q => hin (Or.inr q)
  exact W.aald (v := va_rf (f i.toNatClampNeg)) (ty := .array ty) hexec hb (hP q0 _ ha) ((hK.2 t0 _ ht).1 n (fun j => va_rf (f j))) rfl (fun q => by cases q) (by show ¬ (i < 0 ∨ (arrV _ _ _).slots.size ≤ _); rw [arrV_size]; exact hin) (by show (arrV _ _ _).slots[_]? = _; rw [arrV_read _ _ hlt]) rfl rfl hdg kk
theorem va_mnL {index : Nat} {own nm : String} {ty : FieldType} {cy : ClassId} (hexec : p.tables.exec = Jvm.exec) (hb : c.code = cc) (hown : s.vm.findClass own = some m.cls) (hclink : (Cond.classLink own index nm).before args s = true) (hnm : "[" ++ (FieldType.array ty).toString = nm) (hover : va_AOA ty s) (harr : (Cond.arrayClass ty).before args s = true) (hcy : s.vm.findClass (FieldType.array ty).toString = some cy)
    (hK : va_K D cl tys s) (hP : va_P D cl ws H) (hD : va_D A ws) (hS : va_S A H0 H locs) (hA : ∀ q, H0.size ≤ q → A q) {n k : Int32} {N' K' : Nat} {z : vp_A} (hn : ¬ n < 0) (hk : ¬ k < 0) (hN : n.toNatClampNeg = N') (hM : k.toNatClampNeg = K')
    (hb1 : N' * 4 ≤ 536870912) (hb2 : K' * componentBytes ty ≤ 536870912) (hb3 : K' ≤ 536870912) (hdf : fits ty (defaultValue ty) = true) (hdd : (defaultValue ty).isDefault = true) (hcells : cells + (1 + N') ≤ R.cells) (hslots : slots + (N' + N' * K') ≤ R.slots) (hz : ∀ c : ClassId, Jvm.Free.Multi.innerC c K' (defaultValue ty) = vp_cell c z) (hdg : decode cc pc = .ok (.multianewarray index 2, 4))
    (kk : ∀ (q : Nat) (r : Nat → Nat) (cA : ClassId) (H1 : Heap), va_K D cl (tys ++ [(cA, .array ty)]) s →
      va_P D cl ((ws ++ [(q, .inl (cA, N', .inr (.inr (.inr (.inr (fun i => if i < N' then some (r i) else none))))))]) ++ (List.range N').map (fun i => (r i, .inl (cy, z)))) H1 → va_D A ((ws ++ [(q, .inl (cA, N', .inr (.inr (.inr (.inr (fun i => if i < N' then some (r i) else none))))))]) ++ (List.range N').map (fun i => (r i, .inl (cy, z)))) → va_S A H0 H1 locs →
      W p l e R s m args below meth c H1 locs (cells + 1 + N') (slots + N' + N' * K') Q (F0 m (pc + 4) ls (.ref q :: rest))) : W p l e R s m args below meth c H locs cells slots Q (F0 m pc ls (.int k :: .int n :: rest)) := by
  have e0 : ws ++ va_pl [] (fun _ => (.inl (cy, z) : va_E)) = ws := by simp [va_pl]
  refine va_mna (X := ws) (L := []) (f := fun _ => .inl (cy, z)) hexec hb hown (by rw [hnm]; exact hclink) hover harr hcy hK (by rw [e0]; exact hP) (by rw [e0]; exact hD) hS hA hn hk hN hM hb1 hb2 hb3 hdf hdd hcells hslots hz hdg (fun q r cA H1 _ _ hK1 hP1 hD1 hS1 => ?_)
  have e1 : va_pl ([] ++ (List.range N').map r) (vr_up (fun _ => (.inl (cy, z) : va_E)) ((List.range N').map r) (.inl (cy, z))) = (List.range N').map (fun i => (r i, .inl (cy, z))) := by
    simp [va_pl, vr_up]
  rw [e1] at hP1 hD1
  exact kk q r cA H1 hK1 hP1 hD1 hS1
end VGN
theorem nwX0 : ∀ j, j < 3 → defaultValue (tyX0 j) = vp_V [.long 0, .null, .null] j := by
  intro j hj
  match j, hj with
  | 0, _ => rfl
  | 1, _ => rfl
  | 2, _ => rfl
  | k + 3, h => exact absurd h (by omega)
theorem nwX1 : ∀ j, j < 3 → defaultValue (tyX1 j) = vp_V [.int 0, .int 0, .int 0] j := by
  intro j hj
  match j, hj with
  | 0, _ => rfl
  | 1, _ => rfl
  | 2, _ => rfl
  | k + 3, h => exact absurd h (by omega)
theorem nwX2 : ∀ j, j < 5 → defaultValue (tyX2 j) = vp_V [.int 0, .null, .null, .null, .null] j := by
  intro j hj
  match j, hj with
  | 0, _ => rfl
  | 1, _ => rfl
  | 2, _ => rfl
  | 3, _ => rfl
  | 4, _ => rfl
  | k + 5, h => exact absurd h (by omega)
theorem nwX3 : ∀ j, j < 3 → defaultValue (tyX3 j) = vp_V [.int 0, .null, .null] j := by
  intro j hj
  match j, hj with
  | 0, _ => rfl
  | 1, _ => rfl
  | 2, _ => rfl
  | k + 3, h => exact absurd h (by omega)
theorem nwX4 : ∀ j, j < 3 → defaultValue (tyX4 j) = vp_V [.long 0, .null, .null] j := by
  intro j hj
  match j, hj with
  | 0, _ => rfl
  | 1, _ => rfl
  | 2, _ => rfl
  | k + 3, h => exact absurd h (by omega)
theorem nwX5 : ∀ j, j < 12 → defaultValue (tyX5 j) = vp_V [.null, .null, .int 0, .int 0, .int 0, .int 0, .int 0, .int 0, .int 0, .int 0, .int 0, .int 0] j := by
  intro j hj
  match j, hj with
  | 0, _ => rfl
  | 1, _ => rfl
  | 2, _ => rfl
  | 3, _ => rfl
  | 4, _ => rfl
  | 5, _ => rfl
  | 6, _ => rfl
  | 7, _ => rfl
  | 8, _ => rfl
  | 9, _ => rfl
  | 10, _ => rfl
  | 11, _ => rfl
  | k + 12, h => exact absurd h (by omega)
theorem nwX6 : ∀ j, j < 7 → defaultValue (tyX6 j) = vp_V [.null, .null, .null, .int 0, .int 0, .null, .null] j := by
  intro j hj
  match j, hj with
  | 0, _ => rfl
  | 1, _ => rfl
  | 2, _ => rfl
  | 3, _ => rfl
  | 4, _ => rfl
  | 5, _ => rfl
  | 6, _ => rfl
  | k + 7, h => exact absurd h (by omega)
theorem nwX7 : ∀ j, j < 2 → defaultValue (tyX7 j) = vp_V [.int 0, .null] j := by
  intro j hj
  match j, hj with
  | 0, _ => rfl
  | 1, _ => rfl
  | k + 2, h => exact absurd h (by omega)
theorem nwX8 : ∀ j, j < 3 → defaultValue (tyX8 j) = vp_V [.int 0, .null, .null] j := by
  intro j hj
  match j, hj with
  | 0, _ => rfl
  | 1, _ => rfl
  | 2, _ => rfl
  | k + 3, h => exact absurd h (by omega)
theorem nwX9 : ∀ j, j < 9 → defaultValue (tyX9 j) = vp_V [.int 0, .int 0, .int 0, .null, .null, .null, .null, .null, .null] j := by
  intro j hj
  match j, hj with
  | 0, _ => rfl
  | 1, _ => rfl
  | 2, _ => rfl
  | 3, _ => rfl
  | 4, _ => rfl
  | 5, _ => rfl
  | 6, _ => rfl
  | 7, _ => rfl
  | 8, _ => rfl
  | k + 9, h => exact absurd h (by omega)
theorem nwX10 : ∀ j, j < 14 → defaultValue (tyX10 j) = vp_V [.null, .null, .null, .null, .null, .null, .null, .null, .null, .null, .null, .null, .int 0, .int 0] j := by
  intro j hj
  match j, hj with
  | 0, _ => rfl
  | 1, _ => rfl
  | 2, _ => rfl
  | 3, _ => rfl
  | 4, _ => rfl
  | 5, _ => rfl
  | 6, _ => rfl
  | 7, _ => rfl
  | 8, _ => rfl
  | 9, _ => rfl
  | 10, _ => rfl
  | 11, _ => rfl
  | 12, _ => rfl
  | 13, _ => rfl
  | k + 14, h => exact absurd h (by omega)
theorem nwX11 : ∀ j, j < 35 → defaultValue (tyX11 j) = vp_V [.null, .int 0, .int 0, .null, .int 0, .int 0, .int 0, .int 0, .int 0, .int 0, .null, .int 0, .int 0, .int 0, .int 0, .int 0, .int 0, .int 0, .int 0, .null, .null, .null, .null, .null, .null, .int 0, .null, .int 0, .null, .null, .null, .null, .null, .null, .int 0] j := by
  intro j hj
  match j, hj with
  | 0, _ => rfl
  | 1, _ => rfl
  | 2, _ => rfl
  | 3, _ => rfl
  | 4, _ => rfl
  | 5, _ => rfl
  | 6, _ => rfl
  | 7, _ => rfl
  | 8, _ => rfl
  | 9, _ => rfl
  | 10, _ => rfl
  | 11, _ => rfl
  | 12, _ => rfl
  | 13, _ => rfl
  | 14, _ => rfl
  | 15, _ => rfl
  | 16, _ => rfl
  | 17, _ => rfl
  | 18, _ => rfl
  | 19, _ => rfl
  | 20, _ => rfl
  | 21, _ => rfl
  | 22, _ => rfl
  | 23, _ => rfl
  | 24, _ => rfl
  | 25, _ => rfl
  | 26, _ => rfl
  | 27, _ => rfl
  | 28, _ => rfl
  | 29, _ => rfl
  | 30, _ => rfl
  | 31, _ => rfl
  | 32, _ => rfl
  | 33, _ => rfl
  | 34, _ => rfl
  | k + 35, h => exact absurd h (by omega)

/-! rows of rows: a block of rows rw 0 .. rw (N - 1) in the world -/
theorem blk_at {X Y : va_W} {f : Nat → Nat × va_E} {N j : Nat} (hj : j < N) : (X ++ ((List.range N).map f ++ Y))[X.length + j]? = some (f j) := by
  rw [List.getElem?_append_right (by omega), Nat.add_sub_cancel_left, List.getElem?_append_left (by simp; exact hj)]
  simp [List.getElem?_range hj]
theorem blk_set {X Y : va_W} {f : Nat → Nat × va_E} {N j : Nat} {e : Nat × va_E} (hj : j < N) : (X ++ ((List.range N).map f ++ Y)).set (X.length + j) e = X ++ ((List.range N).map (fun i => if i = j then e else f i) ++ Y) := by
  rw [List.set_append_right _ _ (by omega), Nat.add_sub_cancel_left, List.set_append_left _ _ (by simp; exact hj)]
  congr 2
  apply List.ext_getElem
  · simp
  · intro i h1 h2
    simp only [List.length_map, List.length_range] at h2
    by_cases e1 : i = j
    · subst e1; simp
    · simp [e1, Ne.symm e1]
theorem blk_P {D : va_G} {cl : List vw_C} {H : Heap} {X Y : va_W} {f : Nat → Nat × va_E} {N j : Nat} (hP : va_P D cl (X ++ ((List.range N).map f ++ Y)) H) (hj : j < N) : va_P D cl [f j] H := by
  intro k q hq
  have hk : k = 0 := by
    have := (List.getElem?_eq_some_iff.mp hq).1
    simp at this
    omega
  subst hk
  cases hq
  exact hP (X.length + j) _ (blk_at hj)
theorem blk_P2 {D : va_G} {cl : List vw_C} {H : Heap} {X B Y : va_W} {f : Nat → Nat × va_E} {N j : Nat} (hP : va_P D cl (X ++ (B ++ ((List.range N).map f ++ Y))) H) (hj : j < N) : va_P D cl [f j] H :=
  blk_P (X := X ++ B) (Y := Y) (by rw [List.append_assoc]; exact hP) hj
theorem blk_up {α : Type} {rw' : Nat → Nat} {mk : α → va_E} {F : Nat → α} {j : Nat} {g : α} : (fun i => if i = j then (rw' j, mk g) else (rw' i, mk (F i))) = (fun i => (rw' i, mk (va_up F j g i))) := by
  funext i
  by_cases e : i = j
  · subst e; simp [va_up]
  · simp [va_up, e]
theorem rowref {rw' : Nat → Nat} {N j : Nat} (h : j < N) (hN : N < 2 ^ 31) : va_rf ((fun i => if i < N then some (rw' i) else none) (nI j).toNatClampNeg) = .ref (rw' j) := by
  rw [nI_clamp (by omega)]
  simp [h, va_rf]
section VBK
variable {p : Program} {l : Launch} {e : Env} {R : Room} {s : State} {m : MethodId} {args : Array Value} {below : List Frame} {meth : Method} {c : Code} {H : Heap} {locs : List Loc} {cells slots : Nat} {Q : State → Prop}
variable {cc : ByteArray} {pc : Nat} {ls : Array Slot} {rest : List Value} {D : va_G} {cl : List vw_C} {A : Nat → Prop} {tys : List (ClassId × FieldType)} {X B Y : va_W} {H0 : Heap} {rw' : Nat → Nat} {N K j : Nat} {cA : ClassId}
theorem va_iastB {F : Nat → Nat → Int32} (hexec : p.tables.exec = Jvm.exec) (hb : c.code = cc) (hK : va_K D cl tys s) (hP : va_P D cl (X ++ ((List.range N).map (fun i => (rw' i, .inl (cA, K, .inl (F i)))) ++ Y)) H) (hD : va_D A (X ++ ((List.range N).map (fun i => (rw' i, .inl (cA, K, .inl (F i)))) ++ Y))) (hS : va_S A H0 H locs) (t0 : Nat) (hj : j < N) (ht : tys[t0]? = some (cA, .int)) {i x : Int32} (hin : vp_in i K) (hdg : decode cc pc = .ok (.iastore, 1))
    (kk : ∀ (H1 : Heap) (locs1 : List Loc), va_P D cl (X ++ ((List.range N).map (fun k => (rw' k, .inl (cA, K, .inl (va_up F j (upd (F j) i.toNatClampNeg x) k)))) ++ Y)) H1 → va_D A (X ++ ((List.range N).map (fun k => (rw' k, .inl (cA, K, .inl (va_up F j (upd (F j) i.toNatClampNeg x) k)))) ++ Y)) → va_S A H0 H1 locs1 → W p l e R s m args below meth c H1 locs1 cells slots Q (F0 m (pc + 1) ls rest)) : W p l e R s m args below meth c H locs cells slots Q (F0 m pc ls (.int x :: .int i :: .ref (rw' j) :: rest)) := by
  refine va_iast hexec hb hK hP hD hS (X.length + j) t0 (blk_at (f := fun i => (rw' i, .inl (cA, K, .inl (F i)))) hj) ht hin hdg (fun H1 locs1 h1 h2 h3 => ?_)
  rw [blk_set hj, blk_up (mk := fun g => .inl (cA, K, .inl g))] at h1 h2
  exact kk H1 locs1 h1 h2 h3
theorem va_iastB2 {F : Nat → Nat → Int32} (hexec : p.tables.exec = Jvm.exec) (hb : c.code = cc) (hK : va_K D cl tys s) (hP : va_P D cl (X ++ (B ++ ((List.range N).map (fun i => (rw' i, .inl (cA, K, .inl (F i)))) ++ Y))) H) (hD : va_D A (X ++ (B ++ ((List.range N).map (fun i => (rw' i, .inl (cA, K, .inl (F i)))) ++ Y)))) (hS : va_S A H0 H locs) (t0 : Nat) (hj : j < N) (ht : tys[t0]? = some (cA, .int)) {i x : Int32} (hin : vp_in i K) (hdg : decode cc pc = .ok (.iastore, 1))
    (kk : ∀ (H1 : Heap) (locs1 : List Loc), va_P D cl (X ++ (B ++ ((List.range N).map (fun k => (rw' k, .inl (cA, K, .inl (va_up F j (upd (F j) i.toNatClampNeg x) k)))) ++ Y))) H1 → va_D A (X ++ (B ++ ((List.range N).map (fun k => (rw' k, .inl (cA, K, .inl (va_up F j (upd (F j) i.toNatClampNeg x) k)))) ++ Y))) → va_S A H0 H1 locs1 → W p l e R s m args below meth c H1 locs1 cells slots Q (F0 m (pc + 1) ls rest)) : W p l e R s m args below meth c H locs cells slots Q (F0 m pc ls (.int x :: .int i :: .ref (rw' j) :: rest)) :=
  va_iastB (X := X ++ B) (Y := Y) hexec hb hK (by rw [List.append_assoc]; exact hP) (by rw [List.append_assoc]; exact hD) hS t0 hj ht hin hdg (fun H1 locs1 h1 h2 h3 => kk H1 locs1 (by rw [List.append_assoc] at h1; exact h1) (by rw [List.append_assoc] at h2; exact h2) h3)
theorem va_lastB {F : Nat → Nat → Int64} (hexec : p.tables.exec = Jvm.exec) (hb : c.code = cc) (hK : va_K D cl tys s) (hP : va_P D cl (X ++ ((List.range N).map (fun i => (rw' i, .inl (cA, K, .inr (.inl (F i))))) ++ Y)) H) (hD : va_D A (X ++ ((List.range N).map (fun i => (rw' i, .inl (cA, K, .inr (.inl (F i))))) ++ Y))) (hS : va_S A H0 H locs) (t0 : Nat) (hj : j < N) (ht : tys[t0]? = some (cA, .long)) {i : Int32} {x : Int64} (hin : vp_in i K) (hdg : decode cc pc = .ok (.lastore, 1))
    (kk : ∀ (H1 : Heap) (locs1 : List Loc), va_P D cl (X ++ ((List.range N).map (fun k => (rw' k, .inl (cA, K, .inr (.inl (va_up F j (vp_updL (F j) i.toNatClampNeg x) k))))) ++ Y)) H1 → va_D A (X ++ ((List.range N).map (fun k => (rw' k, .inl (cA, K, .inr (.inl (va_up F j (vp_updL (F j) i.toNatClampNeg x) k))))) ++ Y)) → va_S A H0 H1 locs1 → W p l e R s m args below meth c H1 locs1 cells slots Q (F0 m (pc + 1) ls rest)) : W p l e R s m args below meth c H locs cells slots Q (F0 m pc ls (.long x :: .int i :: .ref (rw' j) :: rest)) := by
  refine va_last hexec hb hK hP hD hS (X.length + j) t0 (blk_at (f := fun i => (rw' i, .inl (cA, K, .inr (.inl (F i))))) hj) ht hin hdg (fun H1 locs1 h1 h2 h3 => ?_)
  rw [blk_set hj, blk_up (mk := fun g => .inl (cA, K, .inr (.inl g)))] at h1 h2
  exact kk H1 locs1 h1 h2 h3
end VBK
