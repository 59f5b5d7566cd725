theorem mc1 {w a0 : Cond} {l : List Cond} (h : w ∈ l) : w ∈ a0 :: l := (List.mem_cons_of_mem _ h)
theorem mc2 {w a0 a1 : Cond} {l : List Cond} (h : w ∈ l) : w ∈ a0 :: a1 :: l := (List.mem_cons_of_mem _ (List.mem_cons_of_mem _ h))
theorem mc3 {w a0 a1 a2 : Cond} {l : List Cond} (h : w ∈ l) : w ∈ a0 :: a1 :: a2 :: l := (List.mem_cons_of_mem _ (List.mem_cons_of_mem _ (List.mem_cons_of_mem _ h)))
theorem mc4 {w a0 a1 a2 a3 : Cond} {l : List Cond} (h : w ∈ l) : w ∈ a0 :: a1 :: a2 :: a3 :: l := (List.mem_cons_of_mem _ (List.mem_cons_of_mem _ (List.mem_cons_of_mem _ (List.mem_cons_of_mem _ h))))
theorem mc5 {w a0 a1 a2 a3 a4 : Cond} {l : List Cond} (h : w ∈ l) : w ∈ a0 :: a1 :: a2 :: a3 :: a4 :: l := (List.mem_cons_of_mem _ (List.mem_cons_of_mem _ (List.mem_cons_of_mem _ (List.mem_cons_of_mem _ (List.mem_cons_of_mem _ h)))))
theorem mc6 {w a0 a1 a2 a3 a4 a5 : Cond} {l : List Cond} (h : w ∈ l) : w ∈ a0 :: a1 :: a2 :: a3 :: a4 :: a5 :: l := (List.mem_cons_of_mem _ (List.mem_cons_of_mem _ (List.mem_cons_of_mem _ (List.mem_cons_of_mem _ (List.mem_cons_of_mem _ (List.mem_cons_of_mem _ h))))))
theorem mc7 {w a0 a1 a2 a3 a4 a5 a6 : Cond} {l : List Cond} (h : w ∈ l) : w ∈ a0 :: a1 :: a2 :: a3 :: a4 :: a5 :: a6 :: l := (List.mem_cons_of_mem _ (List.mem_cons_of_mem _ (List.mem_cons_of_mem _ (List.mem_cons_of_mem _ (List.mem_cons_of_mem _ (List.mem_cons_of_mem _ (List.mem_cons_of_mem _ h)))))))
theorem mc8 {w a0 a1 a2 a3 a4 a5 a6 a7 : Cond} {l : List Cond} (h : w ∈ l) : w ∈ a0 :: a1 :: a2 :: a3 :: a4 :: a5 :: a6 :: a7 :: l := (List.mem_cons_of_mem _ (List.mem_cons_of_mem _ (List.mem_cons_of_mem _ (List.mem_cons_of_mem _ (List.mem_cons_of_mem _ (List.mem_cons_of_mem _ (List.mem_cons_of_mem _ (List.mem_cons_of_mem _ h))))))))
theorem mc9 {w a0 a1 a2 a3 a4 a5 a6 a7 a8 : Cond} {l : List Cond} (h : w ∈ l) : w ∈ a0 :: a1 :: a2 :: a3 :: a4 :: a5 :: a6 :: a7 :: a8 :: l := (List.mem_cons_of_mem _ (List.mem_cons_of_mem _ (List.mem_cons_of_mem _ (List.mem_cons_of_mem _ (List.mem_cons_of_mem _ (List.mem_cons_of_mem _ (List.mem_cons_of_mem _ (List.mem_cons_of_mem _ (List.mem_cons_of_mem _ h)))))))))
theorem mc10 {w a0 a1 a2 a3 a4 a5 a6 a7 a8 a9 : Cond} {l : List Cond} (h : w ∈ l) : w ∈ a0 :: a1 :: a2 :: a3 :: a4 :: a5 :: a6 :: a7 :: a8 :: a9 :: l := (List.mem_cons_of_mem _ (List.mem_cons_of_mem _ (List.mem_cons_of_mem _ (List.mem_cons_of_mem _ (List.mem_cons_of_mem _ (List.mem_cons_of_mem _ (List.mem_cons_of_mem _ (List.mem_cons_of_mem _ (List.mem_cons_of_mem _ (List.mem_cons_of_mem _ h))))))))))
theorem mc11 {w a0 a1 a2 a3 a4 a5 a6 a7 a8 a9 a10 : Cond} {l : List Cond} (h : w ∈ l) : w ∈ a0 :: a1 :: a2 :: a3 :: a4 :: a5 :: a6 :: a7 :: a8 :: a9 :: a10 :: l := (List.mem_cons_of_mem _ (List.mem_cons_of_mem _ (List.mem_cons_of_mem _ (List.mem_cons_of_mem _ (List.mem_cons_of_mem _ (List.mem_cons_of_mem _ (List.mem_cons_of_mem _ (List.mem_cons_of_mem _ (List.mem_cons_of_mem _ (List.mem_cons_of_mem _ (List.mem_cons_of_mem _ h)))))))))))
theorem mc12 {w a0 a1 a2 a3 a4 a5 a6 a7 a8 a9 a10 a11 : Cond} {l : List Cond} (h : w ∈ l) : w ∈ a0 :: a1 :: a2 :: a3 :: a4 :: a5 :: a6 :: a7 :: a8 :: a9 :: a10 :: a11 :: l := (List.mem_cons_of_mem _ (List.mem_cons_of_mem _ (List.mem_cons_of_mem _ (List.mem_cons_of_mem _ (List.mem_cons_of_mem _ (List.mem_cons_of_mem _ (List.mem_cons_of_mem _ (List.mem_cons_of_mem _ (List.mem_cons_of_mem _ (List.mem_cons_of_mem _ (List.mem_cons_of_mem _ (List.mem_cons_of_mem _ h))))))))))))
theorem mc13 {w a0 a1 a2 a3 a4 a5 a6 a7 a8 a9 a10 a11 a12 : Cond} {l : List Cond} (h : w ∈ l) : w ∈ a0 :: a1 :: a2 :: a3 :: a4 :: a5 :: a6 :: a7 :: a8 :: a9 :: a10 :: a11 :: a12 :: l := (List.mem_cons_of_mem _ (List.mem_cons_of_mem _ (List.mem_cons_of_mem _ (List.mem_cons_of_mem _ (List.mem_cons_of_mem _ (List.mem_cons_of_mem _ (List.mem_cons_of_mem _ (List.mem_cons_of_mem _ (List.mem_cons_of_mem _ (List.mem_cons_of_mem _ (List.mem_cons_of_mem _ (List.mem_cons_of_mem _ (List.mem_cons_of_mem _ h)))))))))))))
theorem mc14 {w a0 a1 a2 a3 a4 a5 a6 a7 a8 a9 a10 a11 a12 a13 : Cond} {l : List Cond} (h : w ∈ l) : w ∈ a0 :: a1 :: a2 :: a3 :: a4 :: a5 :: a6 :: a7 :: a8 :: a9 :: a10 :: a11 :: a12 :: a13 :: l := (List.mem_cons_of_mem _ (List.mem_cons_of_mem _ (List.mem_cons_of_mem _ (List.mem_cons_of_mem _ (List.mem_cons_of_mem _ (List.mem_cons_of_mem _ (List.mem_cons_of_mem _ (List.mem_cons_of_mem _ (List.mem_cons_of_mem _ (List.mem_cons_of_mem _ (List.mem_cons_of_mem _ (List.mem_cons_of_mem _ (List.mem_cons_of_mem _ (List.mem_cons_of_mem _ h))))))))))))))
theorem mc15 {w a0 a1 a2 a3 a4 a5 a6 a7 a8 a9 a10 a11 a12 a13 a14 : Cond} {l : List Cond} (h : w ∈ l) : w ∈ a0 :: a1 :: a2 :: a3 :: a4 :: a5 :: a6 :: a7 :: a8 :: a9 :: a10 :: a11 :: a12 :: a13 :: a14 :: l := (List.mem_cons_of_mem _ (List.mem_cons_of_mem _ (List.mem_cons_of_mem _ (List.mem_cons_of_mem _ (List.mem_cons_of_mem _ (List.mem_cons_of_mem _ (List.mem_cons_of_mem _ (List.mem_cons_of_mem _ (List.mem_cons_of_mem _ (List.mem_cons_of_mem _ (List.mem_cons_of_mem _ (List.mem_cons_of_mem _ (List.mem_cons_of_mem _ (List.mem_cons_of_mem _ (List.mem_cons_of_mem _ h)))))))))))))))
theorem mc16 {w a0 a1 a2 a3 a4 a5 a6 a7 a8 a9 a10 a11 a12 a13 a14 a15 : Cond} {l : List Cond} (h : w ∈ l) : w ∈ a0 :: a1 :: a2 :: a3 :: a4 :: a5 :: a6 :: a7 :: a8 :: a9 :: a10 :: a11 :: a12 :: a13 :: a14 :: a15 :: l := (List.mem_cons_of_mem _ (List.mem_cons_of_mem _ (List.mem_cons_of_mem _ (List.mem_cons_of_mem _ (List.mem_cons_of_mem _ (List.mem_cons_of_mem _ (List.mem_cons_of_mem _ (List.mem_cons_of_mem _ (List.mem_cons_of_mem _ (List.mem_cons_of_mem _ (List.mem_cons_of_mem _ (List.mem_cons_of_mem _ (List.mem_cons_of_mem _ (List.mem_cons_of_mem _ (List.mem_cons_of_mem _ (List.mem_cons_of_mem _ h))))))))))))))))
def tE_1_14 : List Cond := (Jvm.Cond.soleField "AsleepPass$Learnt" "size") :: (Jvm.Cond.laysFinal "AsleepPass$Learnt" "AsleepPass$Learnt" "stretchOf" "[I") :: (Jvm.Cond.soleField "AsleepPass$Learnt" "stretchOf") :: (Jvm.Cond.laysFinal "AsleepPass$Learnt" "AsleepPass$Learnt" "giverOf" "[I") :: (Jvm.Cond.soleField "AsleepPass$Learnt" "giverOf") :: (Jvm.Cond.laysFinal "AsleepPass$Learnt" "AsleepPass$Learnt" "takerOf" "[I") :: (Jvm.Cond.soleField "AsleepPass$Learnt" "takerOf") :: (Jvm.Cond.laysFinal "AsleepPass$Learnt" "AsleepPass$Learnt" "harmOf" "[I") :: (Jvm.Cond.soleField "AsleepPass$Learnt" "harmOf") :: (Jvm.Cond.superclass "AsleepPass$Learnt" "java/lang/Object") :: (Jvm.Cond.classLink "AsleepPass" (62 : Nat) "AsleepPass$Marked") :: (Jvm.Cond.instantiable "AsleepPass$Marked" (3 : Nat)) :: (Jvm.Cond.methodLinkNest "AsleepPass" (64 : Nat) ({ cls := "AsleepPass$Marked", name := "<init>", desc := "()V" } : Jvm.MethodName) "AsleepPass") :: (Jvm.Cond.instanceMethod ({ cls := "AsleepPass$Marked", name := "<init>", desc := "()V" } : Jvm.MethodName)) :: (Jvm.Cond.code ({ cls := "AsleepPass$Marked", name := "<init>", desc := "()V" } : Jvm.MethodName) prog_5_method_1_code (1 : Nat) (Option.none : Option Jvm.ClassFile.FieldType)) :: (Jvm.Cond.methodLink "AsleepPass$Marked" (1 : Nat) ({ cls := "java/lang/Object", name := "<init>", desc := "()V" } : Jvm.MethodName)) :: []
def tE_1_13 : List Cond := (Jvm.Cond.lays "AsleepPass$Crossing" "AsleepPass$Crossing" "wokeOn" "I") :: (Jvm.Cond.soleField "AsleepPass$Crossing" "wokeOn") :: (Jvm.Cond.superclass "AsleepPass$Crossing" "java/lang/Object") :: (Jvm.Cond.classLink "AsleepPass" (55 : Nat) "AsleepPass$Learnt") :: (Jvm.Cond.instantiable "AsleepPass$Learnt" (5 : Nat)) :: (Jvm.Cond.methodLinkNest "AsleepPass" (57 : Nat) ({ cls := "AsleepPass$Learnt", name := "<init>", desc := "()V" } : Jvm.MethodName) "AsleepPass") :: (Jvm.Cond.instanceMethod ({ cls := "AsleepPass$Learnt", name := "<init>", desc := "()V" } : Jvm.MethodName)) :: (Jvm.Cond.code ({ cls := "AsleepPass$Learnt", name := "<init>", desc := "()V" } : Jvm.MethodName) prog_4_method_1_code (1 : Nat) (Option.none : Option Jvm.ClassFile.FieldType)) :: (Jvm.Cond.methodLink "AsleepPass$Learnt" (1 : Nat) ({ cls := "java/lang/Object", name := "<init>", desc := "()V" } : Jvm.MethodName)) :: (Jvm.Cond.fieldLink "AsleepPass$Learnt" (22 : Nat) "AsleepPass$Learnt" "size" "I") :: (Jvm.Cond.fieldLinkNest "AsleepPass" (116 : Nat) "AsleepPass$Learnt" "size" "I" "AsleepPass") :: (Jvm.Cond.fieldLink "AsleepPass$Learnt" (9 : Nat) "AsleepPass$Learnt" "stretchOf" "[I") :: (Jvm.Cond.fieldLink "AsleepPass$Learnt" (13 : Nat) "AsleepPass$Learnt" "giverOf" "[I") :: (Jvm.Cond.fieldLink "AsleepPass$Learnt" (16 : Nat) "AsleepPass$Learnt" "takerOf" "[I") :: (Jvm.Cond.fieldLink "AsleepPass$Learnt" (19 : Nat) "AsleepPass$Learnt" "harmOf" "[I") :: (Jvm.Cond.lays "AsleepPass$Learnt" "AsleepPass$Learnt" "size" "I") :: tE_1_14
def tE_1_12 : List Cond := (Jvm.Cond.classLink "AsleepPass" (48 : Nat) "AsleepPass$Crossing") :: (Jvm.Cond.instantiable "AsleepPass$Crossing" (3 : Nat)) :: (Jvm.Cond.methodLinkNest "AsleepPass" (50 : Nat) ({ cls := "AsleepPass$Crossing", name := "<init>", desc := "()V" } : Jvm.MethodName) "AsleepPass") :: (Jvm.Cond.instanceMethod ({ cls := "AsleepPass$Crossing", name := "<init>", desc := "()V" } : Jvm.MethodName)) :: (Jvm.Cond.code ({ cls := "AsleepPass$Crossing", name := "<init>", desc := "()V" } : Jvm.MethodName) prog_3_method_1_code (1 : Nat) (Option.none : Option Jvm.ClassFile.FieldType)) :: (Jvm.Cond.methodLink "AsleepPass$Crossing" (3 : Nat) ({ cls := "java/lang/Object", name := "<init>", desc := "()V" } : Jvm.MethodName)) :: (Jvm.Cond.fieldLink "AsleepPass$Crossing" (15 : Nat) "AsleepPass$Crossing" "depthNow" "I") :: (Jvm.Cond.fieldLinkNest "AsleepPass" (237 : Nat) "AsleepPass$Crossing" "depthNow" "I" "AsleepPass") :: (Jvm.Cond.fieldLink "AsleepPass$Crossing" (20 : Nat) "AsleepPass$Crossing" "falls" "I") :: (Jvm.Cond.fieldLinkNest "AsleepPass" (240 : Nat) "AsleepPass$Crossing" "falls" "I" "AsleepPass") :: (Jvm.Cond.fieldLink "AsleepPass$Crossing" (23 : Nat) "AsleepPass$Crossing" "wokeOn" "I") :: (Jvm.Cond.fieldLinkNest "AsleepPass" (243 : Nat) "AsleepPass$Crossing" "wokeOn" "I" "AsleepPass") :: (Jvm.Cond.lays "AsleepPass$Crossing" "AsleepPass$Crossing" "depthNow" "I") :: (Jvm.Cond.soleField "AsleepPass$Crossing" "depthNow") :: (Jvm.Cond.lays "AsleepPass$Crossing" "AsleepPass$Crossing" "falls" "I") :: (Jvm.Cond.soleField "AsleepPass$Crossing" "falls") :: tE_1_13
def tE_1_11 : List Cond := (Jvm.Cond.classLink "AsleepPass$Choice" (15 : Nat) "[[J") :: (Jvm.Cond.arrayOver (Jvm.ClassFile.FieldType.array Jvm.ClassFile.FieldType.long)) :: (Jvm.Cond.classLink "AsleepPass$Choice" (20 : Nat) "[[I") :: (Jvm.Cond.arrayOver (Jvm.ClassFile.FieldType.array Jvm.ClassFile.FieldType.int)) :: (Jvm.Cond.fieldLink "AsleepPass$Choice" (9 : Nat) "AsleepPass$Choice" "whole" "J") :: (Jvm.Cond.fieldLinkNest "AsleepPass" (206 : Nat) "AsleepPass$Choice" "whole" "J" "AsleepPass") :: (Jvm.Cond.fieldLink "AsleepPass$Choice" (17 : Nat) "AsleepPass$Choice" "waking" "[[J") :: (Jvm.Cond.fieldLink "AsleepPass$Choice" (22 : Nat) "AsleepPass$Choice" "chosen" "[[I") :: (Jvm.Cond.fieldLinkNest "AsleepPass" (207 : Nat) "AsleepPass$Choice" "chosen" "[[I" "AsleepPass") :: (Jvm.Cond.lays "AsleepPass$Choice" "AsleepPass$Choice" "whole" "J") :: (Jvm.Cond.soleField "AsleepPass$Choice" "whole") :: (Jvm.Cond.laysFinal "AsleepPass$Choice" "AsleepPass$Choice" "waking" "[[J") :: (Jvm.Cond.soleField "AsleepPass$Choice" "waking") :: (Jvm.Cond.laysFinal "AsleepPass$Choice" "AsleepPass$Choice" "chosen" "[[I") :: (Jvm.Cond.soleField "AsleepPass$Choice" "chosen") :: (Jvm.Cond.superclass "AsleepPass$Choice" "java/lang/Object") :: tE_1_12
def tE_1_10 : List Cond := (Jvm.Cond.fieldLink "AsleepPass$Odds" (19 : Nat) "AsleepPass$Odds" "ahead" "[J") :: (Jvm.Cond.lays "AsleepPass$Odds" "AsleepPass$Odds" "whole" "J") :: (Jvm.Cond.soleField "AsleepPass$Odds" "whole") :: (Jvm.Cond.laysFinal "AsleepPass$Odds" "AsleepPass$Odds" "shares" "[J") :: (Jvm.Cond.soleField "AsleepPass$Odds" "shares") :: (Jvm.Cond.laysFinal "AsleepPass$Odds" "AsleepPass$Odds" "ahead" "[J") :: (Jvm.Cond.soleField "AsleepPass$Odds" "ahead") :: (Jvm.Cond.superclass "AsleepPass$Odds" "java/lang/Object") :: (Jvm.Cond.arrayClass Jvm.ClassFile.FieldType.boolean) :: (Jvm.Cond.arrayClass Jvm.ClassFile.FieldType.long) :: (Jvm.Cond.classLink "AsleepPass" (41 : Nat) "AsleepPass$Choice") :: (Jvm.Cond.instantiable "AsleepPass$Choice" (3 : Nat)) :: (Jvm.Cond.methodLinkNest "AsleepPass" (43 : Nat) ({ cls := "AsleepPass$Choice", name := "<init>", desc := "()V" } : Jvm.MethodName) "AsleepPass") :: (Jvm.Cond.instanceMethod ({ cls := "AsleepPass$Choice", name := "<init>", desc := "()V" } : Jvm.MethodName)) :: (Jvm.Cond.code ({ cls := "AsleepPass$Choice", name := "<init>", desc := "()V" } : Jvm.MethodName) prog_2_method_1_code (1 : Nat) (Option.none : Option Jvm.ClassFile.FieldType)) :: (Jvm.Cond.methodLink "AsleepPass$Choice" (3 : Nat) ({ cls := "java/lang/Object", name := "<init>", desc := "()V" } : Jvm.MethodName)) :: tE_1_11
def tE_1_9 : List Cond := (Jvm.Cond.lays "AsleepPass$Reader" "AsleepPass$Reader" "furthestBearer" "I") :: (Jvm.Cond.soleField "AsleepPass$Reader" "furthestBearer") :: (Jvm.Cond.superclass "AsleepPass$Reader" "java/lang/Object") :: (Jvm.Cond.classLink "AsleepPass" (16 : Nat) "AsleepPass$Way") :: (Jvm.Cond.methodLinkNest "AsleepPass" (18 : Nat) ({ cls := "AsleepPass$Way", name := "<init>", desc := "()V" } : Jvm.MethodName) "AsleepPass") :: (Jvm.Cond.arrayOver (Jvm.ClassFile.FieldType.object "AsleepPass$Way")) :: (Jvm.Cond.classLink "AsleepPass" (34 : Nat) "AsleepPass$Odds") :: (Jvm.Cond.instantiable "AsleepPass$Odds" (3 : Nat)) :: (Jvm.Cond.methodLinkNest "AsleepPass" (36 : Nat) ({ cls := "AsleepPass$Odds", name := "<init>", desc := "()V" } : Jvm.MethodName) "AsleepPass") :: (Jvm.Cond.instanceMethod ({ cls := "AsleepPass$Odds", name := "<init>", desc := "()V" } : Jvm.MethodName)) :: (Jvm.Cond.code ({ cls := "AsleepPass$Odds", name := "<init>", desc := "()V" } : Jvm.MethodName) prog_6_method_1_code (1 : Nat) (Option.none : Option Jvm.ClassFile.FieldType)) :: (Jvm.Cond.methodLink "AsleepPass$Odds" (3 : Nat) ({ cls := "java/lang/Object", name := "<init>", desc := "()V" } : Jvm.MethodName)) :: (Jvm.Cond.fieldLink "AsleepPass$Odds" (9 : Nat) "AsleepPass$Odds" "whole" "J") :: (Jvm.Cond.fieldLinkNest "AsleepPass" (179 : Nat) "AsleepPass$Odds" "whole" "J" "AsleepPass") :: (Jvm.Cond.fieldLink "AsleepPass$Odds" (15 : Nat) "AsleepPass$Odds" "shares" "[J") :: (Jvm.Cond.fieldLinkNest "AsleepPass" (194 : Nat) "AsleepPass$Odds" "shares" "[J" "AsleepPass") :: tE_1_10
def tE_1_8 : List Cond := (Jvm.Cond.lays "AsleepPass$Reader" "AsleepPass$Reader" "place" "I") :: (Jvm.Cond.soleField "AsleepPass$Reader" "place") :: (Jvm.Cond.lays "AsleepPass$Reader" "AsleepPass$Reader" "lines" "I") :: (Jvm.Cond.soleField "AsleepPass$Reader" "lines") :: (Jvm.Cond.lays "AsleepPass$Reader" "AsleepPass$Reader" "token" "I") :: (Jvm.Cond.soleField "AsleepPass$Reader" "token") :: (Jvm.Cond.lays "AsleepPass$Reader" "AsleepPass$Reader" "first" "I") :: (Jvm.Cond.soleField "AsleepPass$Reader" "first") :: (Jvm.Cond.lays "AsleepPass$Reader" "AsleepPass$Reader" "past" "I") :: (Jvm.Cond.soleField "AsleepPass$Reader" "past") :: (Jvm.Cond.lays "AsleepPass$Reader" "AsleepPass$Reader" "startTold" "Z") :: (Jvm.Cond.soleField "AsleepPass$Reader" "startTold") :: (Jvm.Cond.lays "AsleepPass$Reader" "AsleepPass$Reader" "carried" "I") :: (Jvm.Cond.soleField "AsleepPass$Reader" "carried") :: (Jvm.Cond.lays "AsleepPass$Reader" "AsleepPass$Reader" "furthestStretch" "I") :: (Jvm.Cond.soleField "AsleepPass$Reader" "furthestStretch") :: tE_1_9
def tE_1_7 : List Cond := (Jvm.Cond.fieldLinkNest "AsleepPass" (106 : Nat) "AsleepPass$Reader" "place" "I" "AsleepPass") :: (Jvm.Cond.fieldLink "AsleepPass$Reader" (45 : Nat) "AsleepPass$Reader" "lines" "I") :: (Jvm.Cond.fieldLinkNest "AsleepPass" (120 : Nat) "AsleepPass$Reader" "lines" "I" "AsleepPass") :: (Jvm.Cond.fieldLink "AsleepPass$Reader" (39 : Nat) "AsleepPass$Reader" "token" "I") :: (Jvm.Cond.fieldLink "AsleepPass$Reader" (77 : Nat) "AsleepPass$Reader" "first" "I") :: (Jvm.Cond.fieldLink "AsleepPass$Reader" (57 : Nat) "AsleepPass$Reader" "past" "I") :: (Jvm.Cond.fieldLink "AsleepPass$Reader" (60 : Nat) "AsleepPass$Reader" "startTold" "Z") :: (Jvm.Cond.fieldLink "AsleepPass$Reader" (64 : Nat) "AsleepPass$Reader" "carried" "I") :: (Jvm.Cond.fieldLink "AsleepPass$Reader" (67 : Nat) "AsleepPass$Reader" "furthestStretch" "I") :: (Jvm.Cond.fieldLink "AsleepPass$Reader" (70 : Nat) "AsleepPass$Reader" "furthestBearer" "I") :: (Jvm.Cond.laysFinal "AsleepPass$Reader" "AsleepPass$Reader" "tape" "LAsleepPass$Tape;") :: (Jvm.Cond.soleField "AsleepPass$Reader" "tape") :: (Jvm.Cond.laysFinal "AsleepPass$Reader" "AsleepPass$Reader" "told" "LAsleepPass$Way;") :: (Jvm.Cond.soleField "AsleepPass$Reader" "told") :: (Jvm.Cond.lays "AsleepPass$Reader" "AsleepPass$Reader" "found" "I") :: (Jvm.Cond.soleField "AsleepPass$Reader" "found") :: tE_1_8
def tE_1_6 : List Cond := (Jvm.Cond.laysFinal "AsleepPass$Way" "AsleepPass$Way" "order" "[I") :: (Jvm.Cond.soleField "AsleepPass$Way" "order") :: (Jvm.Cond.laysFinal "AsleepPass$Way" "AsleepPass$Way" "kinds" "[I") :: (Jvm.Cond.soleField "AsleepPass$Way" "kinds") :: (Jvm.Cond.laysFinal "AsleepPass$Way" "AsleepPass$Way" "paces" "[I") :: (Jvm.Cond.soleField "AsleepPass$Way" "paces") :: (Jvm.Cond.laysFinal "AsleepPass$Way" "AsleepPass$Way" "warmths" "[I") :: (Jvm.Cond.soleField "AsleepPass$Way" "warmths") :: (Jvm.Cond.superclass "AsleepPass$Way" "java/lang/Object") :: (Jvm.Cond.fieldLink "AsleepPass$Reader" (12 : Nat) "AsleepPass$Reader" "tape" "LAsleepPass$Tape;") :: (Jvm.Cond.fieldLinkNest "AsleepPass" (83 : Nat) "AsleepPass$Reader" "tape" "LAsleepPass$Tape;" "AsleepPass") :: (Jvm.Cond.fieldLink "AsleepPass$Reader" (21 : Nat) "AsleepPass$Reader" "told" "LAsleepPass$Way;") :: (Jvm.Cond.fieldLinkNest "AsleepPass" (109 : Nat) "AsleepPass$Reader" "told" "LAsleepPass$Way;" "AsleepPass") :: (Jvm.Cond.fieldLink "AsleepPass$Reader" (36 : Nat) "AsleepPass$Reader" "found" "I") :: (Jvm.Cond.fieldLinkNest "AsleepPass" (100 : Nat) "AsleepPass$Reader" "found" "I" "AsleepPass") :: (Jvm.Cond.fieldLink "AsleepPass$Reader" (54 : Nat) "AsleepPass$Reader" "place" "I") :: tE_1_7
def tE_1_5 : List Cond := (Jvm.Cond.fieldLink "AsleepPass$Way" (25 : Nat) "AsleepPass$Way" "kinds" "[I") :: (Jvm.Cond.fieldLinkNest "AsleepPass" (149 : Nat) "AsleepPass$Way" "kinds" "[I" "AsleepPass") :: (Jvm.Cond.fieldLink "AsleepPass$Way" (28 : Nat) "AsleepPass$Way" "paces" "[I") :: (Jvm.Cond.fieldLinkNest "AsleepPass" (152 : Nat) "AsleepPass$Way" "paces" "[I" "AsleepPass") :: (Jvm.Cond.fieldLink "AsleepPass$Way" (31 : Nat) "AsleepPass$Way" "warmths" "[I") :: (Jvm.Cond.fieldLinkNest "AsleepPass" (155 : Nat) "AsleepPass$Way" "warmths" "[I" "AsleepPass") :: (Jvm.Cond.lays "AsleepPass$Way" "AsleepPass$Way" "stretches" "I") :: (Jvm.Cond.soleField "AsleepPass$Way" "stretches") :: (Jvm.Cond.lays "AsleepPass$Way" "AsleepPass$Way" "bearers" "I") :: (Jvm.Cond.soleField "AsleepPass$Way" "bearers") :: (Jvm.Cond.lays "AsleepPass$Way" "AsleepPass$Way" "startDepth" "I") :: (Jvm.Cond.soleField "AsleepPass$Way" "startDepth") :: (Jvm.Cond.laysFinal "AsleepPass$Way" "AsleepPass$Way" "noises" "[I") :: (Jvm.Cond.soleField "AsleepPass$Way" "noises") :: (Jvm.Cond.laysFinal "AsleepPass$Way" "AsleepPass$Way" "colds" "[I") :: (Jvm.Cond.soleField "AsleepPass$Way" "colds") :: tE_1_6
def tE_1_4 : List Cond := (Jvm.Cond.fieldLinkNest "AsleepPass" (126 : Nat) "AsleepPass$Way" "bearers" "I" "AsleepPass") :: (Jvm.Cond.fieldLinkNest "AsleepPass$Reader" (136 : Nat) "AsleepPass$Way" "bearers" "I" "AsleepPass") :: (Jvm.Cond.fieldLink "AsleepPass$Way" (9 : Nat) "AsleepPass$Way" "startDepth" "I") :: (Jvm.Cond.fieldLinkNest "AsleepPass$Odds" (22 : Nat) "AsleepPass$Way" "startDepth" "I" "AsleepPass") :: (Jvm.Cond.fieldLinkNest "AsleepPass$Crossing" (9 : Nat) "AsleepPass$Way" "startDepth" "I" "AsleepPass") :: (Jvm.Cond.fieldLinkNest "AsleepPass$Trails" (19 : Nat) "AsleepPass$Way" "startDepth" "I" "AsleepPass") :: (Jvm.Cond.fieldLinkNest "AsleepPass$Choice" (59 : Nat) "AsleepPass$Way" "startDepth" "I" "AsleepPass") :: (Jvm.Cond.fieldLinkNest "AsleepPass" (129 : Nat) "AsleepPass$Way" "startDepth" "I" "AsleepPass") :: (Jvm.Cond.fieldLinkNest "AsleepPass$Reader" (123 : Nat) "AsleepPass$Way" "startDepth" "I" "AsleepPass") :: (Jvm.Cond.fieldLink "AsleepPass$Way" (15 : Nat) "AsleepPass$Way" "noises" "[I") :: (Jvm.Cond.fieldLinkNest "AsleepPass" (136 : Nat) "AsleepPass$Way" "noises" "[I" "AsleepPass") :: (Jvm.Cond.fieldLink "AsleepPass$Way" (19 : Nat) "AsleepPass$Way" "colds" "[I") :: (Jvm.Cond.fieldLinkNest "AsleepPass" (140 : Nat) "AsleepPass$Way" "colds" "[I" "AsleepPass") :: (Jvm.Cond.fieldLink "AsleepPass$Way" (22 : Nat) "AsleepPass$Way" "order" "[I") :: (Jvm.Cond.fieldLinkNest "AsleepPass" (143 : Nat) "AsleepPass$Way" "order" "[I" "AsleepPass") :: (Jvm.Cond.fieldLinkNest "AsleepPass$Reader" (146 : Nat) "AsleepPass$Way" "order" "[I" "AsleepPass") :: tE_1_5
def tE_1_3 : List Cond := (Jvm.Cond.superclass "AsleepPass$Tape" "java/lang/Object") :: (Jvm.Cond.arrayClass Jvm.ClassFile.FieldType.int) :: (Jvm.Cond.classLink "AsleepPass$Reader" (18 : Nat) "AsleepPass$Way") :: (Jvm.Cond.instantiable "AsleepPass$Way" (9 : Nat)) :: (Jvm.Cond.methodLinkNest "AsleepPass$Reader" (20 : Nat) ({ cls := "AsleepPass$Way", name := "<init>", desc := "()V" } : Jvm.MethodName) "AsleepPass") :: (Jvm.Cond.instanceMethod ({ cls := "AsleepPass$Way", name := "<init>", desc := "()V" } : Jvm.MethodName)) :: (Jvm.Cond.code ({ cls := "AsleepPass$Way", name := "<init>", desc := "()V" } : Jvm.MethodName) prog_11_method_1_code (1 : Nat) (Option.none : Option Jvm.ClassFile.FieldType)) :: (Jvm.Cond.methodLink "AsleepPass$Way" (3 : Nat) ({ cls := "java/lang/Object", name := "<init>", desc := "()V" } : Jvm.MethodName)) :: (Jvm.Cond.fieldLink "AsleepPass$Way" (34 : Nat) "AsleepPass$Way" "stretches" "I") :: (Jvm.Cond.fieldLinkNest "AsleepPass$Crossing" (26 : Nat) "AsleepPass$Way" "stretches" "I" "AsleepPass") :: (Jvm.Cond.fieldLinkNest "AsleepPass$Trails" (25 : Nat) "AsleepPass$Way" "stretches" "I" "AsleepPass") :: (Jvm.Cond.fieldLinkNest "AsleepPass$Choice" (25 : Nat) "AsleepPass$Way" "stretches" "I" "AsleepPass") :: (Jvm.Cond.fieldLinkNest "AsleepPass" (123 : Nat) "AsleepPass$Way" "stretches" "I" "AsleepPass") :: (Jvm.Cond.fieldLinkNest "AsleepPass$Reader" (129 : Nat) "AsleepPass$Way" "stretches" "I" "AsleepPass") :: (Jvm.Cond.fieldLink "AsleepPass$Way" (37 : Nat) "AsleepPass$Way" "bearers" "I") :: (Jvm.Cond.fieldLinkNest "AsleepPass$Choice" (37 : Nat) "AsleepPass$Way" "bearers" "I" "AsleepPass") :: tE_1_4
def tE_1_2 : List Cond := (Jvm.Cond.code ({ cls := "AsleepPass$Reader", name := "<init>", desc := "()V" } : Jvm.MethodName) prog_7_method_1_code (1 : Nat) (Option.none : Option Jvm.ClassFile.FieldType)) :: (Jvm.Cond.methodLink "AsleepPass$Reader" (3 : Nat) ({ cls := "java/lang/Object", name := "<init>", desc := "()V" } : Jvm.MethodName)) :: (Jvm.Cond.classLink "AsleepPass$Reader" (9 : Nat) "AsleepPass$Tape") :: (Jvm.Cond.instantiable "AsleepPass$Tape" (2 : Nat)) :: (Jvm.Cond.methodLinkNest "AsleepPass$Reader" (11 : Nat) ({ cls := "AsleepPass$Tape", name := "<init>", desc := "()V" } : Jvm.MethodName) "AsleepPass") :: (Jvm.Cond.instanceMethod ({ cls := "AsleepPass$Tape", name := "<init>", desc := "()V" } : Jvm.MethodName)) :: (Jvm.Cond.code ({ cls := "AsleepPass$Tape", name := "<init>", desc := "()V" } : Jvm.MethodName) prog_9_method_1_code (1 : Nat) (Option.none : Option Jvm.ClassFile.FieldType)) :: (Jvm.Cond.methodLink "AsleepPass$Tape" (1 : Nat) ({ cls := "java/lang/Object", name := "<init>", desc := "()V" } : Jvm.MethodName)) :: (Jvm.Cond.fieldLink "AsleepPass$Tape" (13 : Nat) "AsleepPass$Tape" "length" "I") :: (Jvm.Cond.fieldLinkNest "AsleepPass$Reader" (32 : Nat) "AsleepPass$Tape" "length" "I" "AsleepPass") :: (Jvm.Cond.fieldLinkNest "AsleepPass" (93 : Nat) "AsleepPass$Tape" "length" "I" "AsleepPass") :: (Jvm.Cond.fieldLink "AsleepPass$Tape" (9 : Nat) "AsleepPass$Tape" "bytes" "[I") :: (Jvm.Cond.lays "AsleepPass$Tape" "AsleepPass$Tape" "length" "I") :: (Jvm.Cond.soleField "AsleepPass$Tape" "length") :: (Jvm.Cond.laysFinal "AsleepPass$Tape" "AsleepPass$Tape" "bytes" "[I") :: (Jvm.Cond.soleField "AsleepPass$Tape" "bytes") :: tE_1_3
def tE_1_1 : List Cond := (Jvm.Cond.initialized "java/lang/StringUTF16") :: (Jvm.Cond.initialized "java/lang/Math") :: (Jvm.Cond.initialized "java/lang/System") :: (Jvm.Cond.initialized "java/lang/Integer") :: (Jvm.Cond.classLink "AsleepPassLaw" (7 : Nat) "AsleepPass") :: (Jvm.Cond.instantiable "AsleepPass" (14 : Nat)) :: (Jvm.Cond.methodLink "AsleepPassLaw" (9 : Nat) ({ cls := "AsleepPass", name := "<init>", desc := "()V" } : Jvm.MethodName)) :: (Jvm.Cond.instanceMethod ({ cls := "AsleepPass", name := "<init>", desc := "()V" } : Jvm.MethodName)) :: (Jvm.Cond.code ({ cls := "AsleepPass", name := "<init>", desc := "()V" } : Jvm.MethodName) prog_1_method_1_code (2 : Nat) (Option.none : Option Jvm.ClassFile.FieldType)) :: (Jvm.Cond.methodLink "AsleepPass" (1 : Nat) ({ cls := "java/lang/Object", name := "<init>", desc := "()V" } : Jvm.MethodName)) :: (Jvm.Cond.instanceMethod ({ cls := "java/lang/Object", name := "<init>", desc := "()V" } : Jvm.MethodName)) :: (Jvm.Cond.code ({ cls := "java/lang/Object", name := "<init>", desc := "()V" } : Jvm.MethodName) object_method_1_code (1 : Nat) (Option.none : Option Jvm.ClassFile.FieldType)) :: (Jvm.Cond.classLink "AsleepPass" (7 : Nat) "AsleepPass$Reader") :: (Jvm.Cond.instantiable "AsleepPass$Reader" (12 : Nat)) :: (Jvm.Cond.methodLinkNest "AsleepPass" (9 : Nat) ({ cls := "AsleepPass$Reader", name := "<init>", desc := "()V" } : Jvm.MethodName) "AsleepPass") :: (Jvm.Cond.instanceMethod ({ cls := "AsleepPass$Reader", name := "<init>", desc := "()V" } : Jvm.MethodName)) :: tE_1_2
def tE_1_0 : List Cond := (Jvm.Cond.initialized "AsleepPassLaw") :: (Jvm.Cond.initialized "AsleepPass") :: (Jvm.Cond.initialized "AsleepPass$Reader") :: (Jvm.Cond.initialized "AsleepPass$Tape") :: (Jvm.Cond.initialized "AsleepPass$Way") :: (Jvm.Cond.initialized "AsleepPass$Odds") :: (Jvm.Cond.initialized "AsleepPass$Choice") :: (Jvm.Cond.initialized "AsleepPass$Crossing") :: (Jvm.Cond.initialized "AsleepPass$Learnt") :: (Jvm.Cond.initialized "AsleepPass$Marked") :: (Jvm.Cond.initialized "AsleepPass$Trails") :: (Jvm.Cond.initialized "AsleepPass$Sheets") :: (Jvm.Cond.initialized "AsleepPassModel") :: (Jvm.Cond.initialized "java/lang/String") :: (Jvm.Cond.initialized "java/lang/StringLatin1") :: (Jvm.Cond.initialized "jdk/internal/util/Preconditions") :: tE_1_1
set_option maxRecDepth 100000 in
theorem tE_1 : tables_1_1 = tE_1_0 := rfl
theorem sE_1_0 {w : Cond} (h : w ∈ tE_1_0) : w ∈ tables_1 := (List.mem_append_left _ (by rw [tE_1]; exact h))
theorem sE_1_1 {w : Cond} (h : w ∈ tE_1_1) : w ∈ tables_1 := sE_1_0 (mc16 h)
theorem sE_1_2 {w : Cond} (h : w ∈ tE_1_2) : w ∈ tables_1 := sE_1_1 (mc16 h)
theorem sE_1_3 {w : Cond} (h : w ∈ tE_1_3) : w ∈ tables_1 := sE_1_2 (mc16 h)
theorem sE_1_4 {w : Cond} (h : w ∈ tE_1_4) : w ∈ tables_1 := sE_1_3 (mc16 h)
theorem sE_1_5 {w : Cond} (h : w ∈ tE_1_5) : w ∈ tables_1 := sE_1_4 (mc16 h)
theorem sE_1_6 {w : Cond} (h : w ∈ tE_1_6) : w ∈ tables_1 := sE_1_5 (mc16 h)
theorem sE_1_7 {w : Cond} (h : w ∈ tE_1_7) : w ∈ tables_1 := sE_1_6 (mc16 h)
theorem sE_1_8 {w : Cond} (h : w ∈ tE_1_8) : w ∈ tables_1 := sE_1_7 (mc16 h)
theorem sE_1_9 {w : Cond} (h : w ∈ tE_1_9) : w ∈ tables_1 := sE_1_8 (mc16 h)
theorem sE_1_10 {w : Cond} (h : w ∈ tE_1_10) : w ∈ tables_1 := sE_1_9 (mc16 h)
theorem sE_1_11 {w : Cond} (h : w ∈ tE_1_11) : w ∈ tables_1 := sE_1_10 (mc16 h)
theorem sE_1_12 {w : Cond} (h : w ∈ tE_1_12) : w ∈ tables_1 := sE_1_11 (mc16 h)
theorem sE_1_13 {w : Cond} (h : w ∈ tE_1_13) : w ∈ tables_1 := sE_1_12 (mc16 h)
theorem sE_1_14 {w : Cond} (h : w ∈ tE_1_14) : w ∈ tables_1 := sE_1_13 (mc16 h)
def tE_2_14 : List Cond := (Jvm.Cond.privateMethod ({ cls := "AsleepPass$Reader", name := "nextStop", desc := "()Z" } : Jvm.MethodName)) :: (Jvm.Cond.instanceMethod ({ cls := "AsleepPass$Reader", name := "nextStop", desc := "()Z" } : Jvm.MethodName)) :: (Jvm.Cond.code ({ cls := "AsleepPass$Reader", name := "nextStop", desc := "()Z" } : Jvm.MethodName) prog_7_method_14_code (1 : Nat) (Option.some Jvm.ClassFile.FieldType.boolean)) :: (Jvm.Cond.stringRef "AsleepPass$Reader" (101 : Nat) "stretch") :: (Jvm.Cond.methodLink "AsleepPass$Reader" (103 : Nat) ({ cls := "AsleepPass$Reader", name := "readStretch", desc := "()Z" } : Jvm.MethodName)) :: (Jvm.Cond.privateMethod ({ cls := "AsleepPass$Reader", name := "readStretch", desc := "()Z" } : Jvm.MethodName)) :: (Jvm.Cond.instanceMethod ({ cls := "AsleepPass$Reader", name := "readStretch", desc := "()Z" } : Jvm.MethodName)) :: (Jvm.Cond.code ({ cls := "AsleepPass$Reader", name := "readStretch", desc := "()Z" } : Jvm.MethodName) prog_7_method_9_code (2 : Nat) (Option.some Jvm.ClassFile.FieldType.boolean)) :: (Jvm.Cond.methodLinkNest "AsleepPass$Reader" (132 : Nat) ({ cls := "AsleepPass$Way", name := "addStretch", desc := "(II)V" } : Jvm.MethodName) "AsleepPass") :: (Jvm.Cond.privateMethod ({ cls := "AsleepPass$Way", name := "addStretch", desc := "(II)V" } : Jvm.MethodName)) :: (Jvm.Cond.instanceMethod ({ cls := "AsleepPass$Way", name := "addStretch", desc := "(II)V" } : Jvm.MethodName)) :: (Jvm.Cond.code ({ cls := "AsleepPass$Way", name := "addStretch", desc := "(II)V" } : Jvm.MethodName) prog_11_method_6_code (3 : Nat) (Option.none : Option Jvm.ClassFile.FieldType)) :: (Jvm.Cond.stringRef "AsleepPass$Reader" (106 : Nat) "bearer") :: (Jvm.Cond.methodLink "AsleepPass$Reader" (108 : Nat) ({ cls := "AsleepPass$Reader", name := "readBearer", desc := "()Z" } : Jvm.MethodName)) :: (Jvm.Cond.privateMethod ({ cls := "AsleepPass$Reader", name := "readBearer", desc := "()Z" } : Jvm.MethodName)) :: (Jvm.Cond.instanceMethod ({ cls := "AsleepPass$Reader", name := "readBearer", desc := "()Z" } : Jvm.MethodName)) :: []
def tE_2_13 : List Cond := (Jvm.Cond.laysStatic "java/lang/StringUTF16" "HI_BYTE_SHIFT" "I") :: (Jvm.Cond.fieldLink "java/lang/StringUTF16" (63 : Nat) "java/lang/StringUTF16" "LO_BYTE_SHIFT" "I") :: (Jvm.Cond.laysStatic "java/lang/StringUTF16" "LO_BYTE_SHIFT" "I") :: (Jvm.Cond.methodLink "AsleepPass$Reader" (98 : Nat) ({ cls := "AsleepPass$Reader", name := "readStart", desc := "()Z" } : Jvm.MethodName)) :: (Jvm.Cond.privateMethod ({ cls := "AsleepPass$Reader", name := "readStart", desc := "()Z" } : Jvm.MethodName)) :: (Jvm.Cond.instanceMethod ({ cls := "AsleepPass$Reader", name := "readStart", desc := "()Z" } : Jvm.MethodName)) :: (Jvm.Cond.code ({ cls := "AsleepPass$Reader", name := "readStart", desc := "()Z" } : Jvm.MethodName) prog_7_method_8_code (1 : Nat) (Option.some Jvm.ClassFile.FieldType.boolean)) :: (Jvm.Cond.methodLink "AsleepPass$Reader" (116 : Nat) ({ cls := "AsleepPass$Reader", name := "nextNumber", desc := "(II)Z" } : Jvm.MethodName)) :: (Jvm.Cond.privateMethod ({ cls := "AsleepPass$Reader", name := "nextNumber", desc := "(II)Z" } : Jvm.MethodName)) :: (Jvm.Cond.instanceMethod ({ cls := "AsleepPass$Reader", name := "nextNumber", desc := "(II)Z" } : Jvm.MethodName)) :: (Jvm.Cond.code ({ cls := "AsleepPass$Reader", name := "nextNumber", desc := "(II)Z" } : Jvm.MethodName) prog_7_method_13_code (4 : Nat) (Option.some Jvm.ClassFile.FieldType.boolean)) :: (Jvm.Cond.methodLink "AsleepPass$Reader" (119 : Nat) ({ cls := "AsleepPass$Reader", name := "value", desc := "()I" } : Jvm.MethodName)) :: (Jvm.Cond.privateMethod ({ cls := "AsleepPass$Reader", name := "value", desc := "()I" } : Jvm.MethodName)) :: (Jvm.Cond.instanceMethod ({ cls := "AsleepPass$Reader", name := "value", desc := "()I" } : Jvm.MethodName)) :: (Jvm.Cond.code ({ cls := "AsleepPass$Reader", name := "value", desc := "()I" } : Jvm.MethodName) prog_7_method_15_code (3 : Nat) (Option.some Jvm.ClassFile.FieldType.int)) :: (Jvm.Cond.methodLink "AsleepPass$Reader" (126 : Nat) ({ cls := "AsleepPass$Reader", name := "nextStop", desc := "()Z" } : Jvm.MethodName)) :: tE_2_14
def tE_2_12 : List Cond := (Jvm.Cond.methodLink "java/lang/String" (498 : Nat) ({ cls := "java/lang/StringUTF16", name := "charAt", desc := "([BI)C" } : Jvm.MethodName)) :: (Jvm.Cond.static ({ cls := "java/lang/StringUTF16", name := "charAt", desc := "([BI)C" } : Jvm.MethodName)) :: (Jvm.Cond.code ({ cls := "java/lang/StringUTF16", name := "charAt", desc := "([BI)C" } : Jvm.MethodName) prog_18_method_83_code (2 : Nat) (Option.some Jvm.ClassFile.FieldType.char)) :: (Jvm.Cond.methodLink "java/lang/StringUTF16" (67 : Nat) ({ cls := "java/lang/StringUTF16", name := "checkIndex", desc := "(I[B)V" } : Jvm.MethodName)) :: (Jvm.Cond.static ({ cls := "java/lang/StringUTF16", name := "checkIndex", desc := "(I[B)V" } : Jvm.MethodName)) :: (Jvm.Cond.code ({ cls := "java/lang/StringUTF16", name := "checkIndex", desc := "(I[B)V" } : Jvm.MethodName) prog_18_method_91_code (2 : Nat) (Option.none : Option Jvm.ClassFile.FieldType)) :: (Jvm.Cond.methodLink "java/lang/StringUTF16" (48 : Nat) ({ cls := "java/lang/StringUTF16", name := "length", desc := "([B)I" } : Jvm.MethodName)) :: (Jvm.Cond.static ({ cls := "java/lang/StringUTF16", name := "length", desc := "([B)I" } : Jvm.MethodName)) :: (Jvm.Cond.code ({ cls := "java/lang/StringUTF16", name := "length", desc := "([B)I" } : Jvm.MethodName) prog_18_method_6_code (1 : Nat) (Option.some Jvm.ClassFile.FieldType.int)) :: (Jvm.Cond.methodLink "java/lang/StringUTF16" (414 : Nat) ({ cls := "java/lang/String", name := "checkIndex", desc := "(II)V" } : Jvm.MethodName)) :: (Jvm.Cond.methodLink "java/lang/StringUTF16" (71 : Nat) ({ cls := "java/lang/StringUTF16", name := "getChar", desc := "([BI)C" } : Jvm.MethodName)) :: (Jvm.Cond.static ({ cls := "java/lang/StringUTF16", name := "getChar", desc := "([BI)C" } : Jvm.MethodName)) :: (Jvm.Cond.code ({ cls := "java/lang/StringUTF16", name := "getChar", desc := "([BI)C" } : Jvm.MethodName) prog_18_method_5_code (2 : Nat) (Option.some Jvm.ClassFile.FieldType.char)) :: (Jvm.Cond.fieldLink "java/lang/StringUTF16" (44 : Nat) "java/lang/StringUTF16" "$assertionsDisabled" "Z") :: (Jvm.Cond.laysStatic "java/lang/StringUTF16" "$assertionsDisabled" "Z") :: (Jvm.Cond.fieldLink "java/lang/StringUTF16" (59 : Nat) "java/lang/StringUTF16" "HI_BYTE_SHIFT" "I") :: tE_2_13
def tE_2_11 : List Cond := (Jvm.Cond.code ({ cls := "java/lang/String", name := "charAt", desc := "(I)C" } : Jvm.MethodName) prog_16_method_56_code (2 : Nat) (Option.some Jvm.ClassFile.FieldType.char)) :: (Jvm.Cond.methodLink "java/lang/String" (492 : Nat) ({ cls := "java/lang/String", name := "isLatin1", desc := "()Z" } : Jvm.MethodName)) :: (Jvm.Cond.instanceMethod ({ cls := "java/lang/String", name := "isLatin1", desc := "()Z" } : Jvm.MethodName)) :: (Jvm.Cond.selects "java/lang/String" ({ cls := "java/lang/String", name := "isLatin1", desc := "()Z" } : Jvm.MethodName) ({ cls := "java/lang/String", name := "isLatin1", desc := "()Z" } : Jvm.MethodName)) :: (Jvm.Cond.code ({ cls := "java/lang/String", name := "isLatin1", desc := "()Z" } : Jvm.MethodName) prog_16_method_154_code (1 : Nat) (Option.some Jvm.ClassFile.FieldType.boolean)) :: (Jvm.Cond.methodLink "java/lang/String" (495 : Nat) ({ cls := "java/lang/StringLatin1", name := "charAt", desc := "([BI)C" } : Jvm.MethodName)) :: (Jvm.Cond.static ({ cls := "java/lang/StringLatin1", name := "charAt", desc := "([BI)C" } : Jvm.MethodName)) :: (Jvm.Cond.code ({ cls := "java/lang/StringLatin1", name := "charAt", desc := "([BI)C" } : Jvm.MethodName) prog_17_method_2_code (2 : Nat) (Option.some Jvm.ClassFile.FieldType.char)) :: (Jvm.Cond.methodLink "java/lang/StringLatin1" (9 : Nat) ({ cls := "java/lang/String", name := "checkIndex", desc := "(II)V" } : Jvm.MethodName)) :: (Jvm.Cond.static ({ cls := "java/lang/String", name := "checkIndex", desc := "(II)V" } : Jvm.MethodName)) :: (Jvm.Cond.code ({ cls := "java/lang/String", name := "checkIndex", desc := "(II)V" } : Jvm.MethodName) prog_16_method_155_code (2 : Nat) (Option.none : Option Jvm.ClassFile.FieldType)) :: (Jvm.Cond.fieldLink "java/lang/String" (1053 : Nat) "jdk/internal/util/Preconditions" "SIOOBE_FORMATTER" "Ljava/util/function/BiFunction;") :: (Jvm.Cond.laysStatic "jdk/internal/util/Preconditions" "SIOOBE_FORMATTER" "Ljava/util/function/BiFunction;") :: (Jvm.Cond.methodLink "java/lang/String" (1059 : Nat) ({ cls := "jdk/internal/util/Preconditions", name := "checkIndex", desc := "(IILjava/util/function/BiFunction;)I" } : Jvm.MethodName)) :: (Jvm.Cond.static ({ cls := "jdk/internal/util/Preconditions", name := "checkIndex", desc := "(IILjava/util/function/BiFunction;)I" } : Jvm.MethodName)) :: (Jvm.Cond.code ({ cls := "jdk/internal/util/Preconditions", name := "checkIndex", desc := "(IILjava/util/function/BiFunction;)I" } : Jvm.MethodName) prog_20_method_11_code (3 : Nat) (Option.some Jvm.ClassFile.FieldType.int)) :: tE_2_12
def tE_2_10 : List Cond := (Jvm.Cond.privateMethod ({ cls := "AsleepPass$Tape", name := "says", desc := "(IILjava/lang/String;)Z" } : Jvm.MethodName)) :: (Jvm.Cond.instanceMethod ({ cls := "AsleepPass$Tape", name := "says", desc := "(IILjava/lang/String;)Z" } : Jvm.MethodName)) :: (Jvm.Cond.code ({ cls := "AsleepPass$Tape", name := "says", desc := "(IILjava/lang/String;)Z" } : Jvm.MethodName) prog_9_method_4_code (5 : Nat) (Option.some Jvm.ClassFile.FieldType.boolean)) :: (Jvm.Cond.methodLink "AsleepPass$Tape" (19 : Nat) ({ cls := "java/lang/String", name := "length", desc := "()I" } : Jvm.MethodName)) :: (Jvm.Cond.instanceMethod ({ cls := "java/lang/String", name := "length", desc := "()I" } : Jvm.MethodName)) :: (Jvm.Cond.selects "java/lang/String" ({ cls := "java/lang/String", name := "length", desc := "()I" } : Jvm.MethodName) ({ cls := "java/lang/String", name := "length", desc := "()I" } : Jvm.MethodName)) :: (Jvm.Cond.code ({ cls := "java/lang/String", name := "length", desc := "()I" } : Jvm.MethodName) prog_16_method_54_code (1 : Nat) (Option.some Jvm.ClassFile.FieldType.int)) :: (Jvm.Cond.methodLink "java/lang/String" (335 : Nat) ({ cls := "java/lang/String", name := "coder", desc := "()B" } : Jvm.MethodName)) :: (Jvm.Cond.instanceMethod ({ cls := "java/lang/String", name := "coder", desc := "()B" } : Jvm.MethodName)) :: (Jvm.Cond.selects "java/lang/String" ({ cls := "java/lang/String", name := "coder", desc := "()B" } : Jvm.MethodName) ({ cls := "java/lang/String", name := "coder", desc := "()B" } : Jvm.MethodName)) :: (Jvm.Cond.code ({ cls := "java/lang/String", name := "coder", desc := "()B" } : Jvm.MethodName) prog_16_method_152_code (1 : Nat) (Option.some Jvm.ClassFile.FieldType.byte)) :: (Jvm.Cond.fieldLink "java/lang/String" (38 : Nat) "java/lang/String" "COMPACT_STRINGS" "Z") :: (Jvm.Cond.laysStatic "java/lang/String" "COMPACT_STRINGS" "Z") :: (Jvm.Cond.methodLink "AsleepPass$Tape" (24 : Nat) ({ cls := "java/lang/String", name := "charAt", desc := "(I)C" } : Jvm.MethodName)) :: (Jvm.Cond.instanceMethod ({ cls := "java/lang/String", name := "charAt", desc := "(I)C" } : Jvm.MethodName)) :: (Jvm.Cond.selects "java/lang/String" ({ cls := "java/lang/String", name := "charAt", desc := "(I)C" } : Jvm.MethodName) ({ cls := "java/lang/String", name := "charAt", desc := "(I)C" } : Jvm.MethodName)) :: tE_2_11
def tE_2_9 : List Cond := (Jvm.Cond.instanceMethod ({ cls := "AsleepPass$Tape", name := "byteAt", desc := "(I)I" } : Jvm.MethodName)) :: (Jvm.Cond.code ({ cls := "AsleepPass$Tape", name := "byteAt", desc := "(I)I" } : Jvm.MethodName) prog_9_method_3_code (2 : Nat) (Option.some Jvm.ClassFile.FieldType.int)) :: (Jvm.Cond.methodLink "AsleepPass$Reader" (84 : Nat) ({ cls := "AsleepPass$Reader", name := "refuse", desc := "(II)Z" } : Jvm.MethodName)) :: (Jvm.Cond.privateMethod ({ cls := "AsleepPass$Reader", name := "refuse", desc := "(II)Z" } : Jvm.MethodName)) :: (Jvm.Cond.instanceMethod ({ cls := "AsleepPass$Reader", name := "refuse", desc := "(II)Z" } : Jvm.MethodName)) :: (Jvm.Cond.code ({ cls := "AsleepPass$Reader", name := "refuse", desc := "(II)Z" } : Jvm.MethodName) prog_7_method_4_code (3 : Nat) (Option.some Jvm.ClassFile.FieldType.boolean)) :: (Jvm.Cond.methodLink "AsleepPass$Reader" (42 : Nat) ({ cls := "AsleepPass$Reader", name := "readLine", desc := "()Z" } : Jvm.MethodName)) :: (Jvm.Cond.privateMethod ({ cls := "AsleepPass$Reader", name := "readLine", desc := "()Z" } : Jvm.MethodName)) :: (Jvm.Cond.instanceMethod ({ cls := "AsleepPass$Reader", name := "readLine", desc := "()Z" } : Jvm.MethodName)) :: (Jvm.Cond.code ({ cls := "AsleepPass$Reader", name := "readLine", desc := "()Z" } : Jvm.MethodName) prog_7_method_7_code (1 : Nat) (Option.some Jvm.ClassFile.FieldType.boolean)) :: (Jvm.Cond.stringRef "AsleepPass$Reader" (92 : Nat) "start") :: (Jvm.Cond.methodLink "AsleepPass$Reader" (94 : Nat) ({ cls := "AsleepPass$Reader", name := "isName", desc := "(Ljava/lang/String;)Z" } : Jvm.MethodName)) :: (Jvm.Cond.privateMethod ({ cls := "AsleepPass$Reader", name := "isName", desc := "(Ljava/lang/String;)Z" } : Jvm.MethodName)) :: (Jvm.Cond.instanceMethod ({ cls := "AsleepPass$Reader", name := "isName", desc := "(Ljava/lang/String;)Z" } : Jvm.MethodName)) :: (Jvm.Cond.code ({ cls := "AsleepPass$Reader", name := "isName", desc := "(Ljava/lang/String;)Z" } : Jvm.MethodName) prog_7_method_6_code (2 : Nat) (Option.some Jvm.ClassFile.FieldType.boolean)) :: (Jvm.Cond.methodLinkNest "AsleepPass$Reader" (88 : Nat) ({ cls := "AsleepPass$Tape", name := "says", desc := "(IILjava/lang/String;)Z" } : Jvm.MethodName) "AsleepPass") :: tE_2_10
def tE_2_8 : List Cond := (Jvm.Cond.instanceMethod ({ cls := "AsleepPass$Reader", name := "begin", desc := "()V" } : Jvm.MethodName)) :: (Jvm.Cond.code ({ cls := "AsleepPass$Reader", name := "begin", desc := "()V" } : Jvm.MethodName) prog_7_method_3_code (1 : Nat) (Option.none : Option Jvm.ClassFile.FieldType)) :: (Jvm.Cond.methodLinkNest "AsleepPass$Reader" (51 : Nat) ({ cls := "AsleepPass$Way", name := "clear", desc := "()V" } : Jvm.MethodName) "AsleepPass") :: (Jvm.Cond.privateMethod ({ cls := "AsleepPass$Way", name := "clear", desc := "()V" } : Jvm.MethodName)) :: (Jvm.Cond.instanceMethod ({ cls := "AsleepPass$Way", name := "clear", desc := "()V" } : Jvm.MethodName)) :: (Jvm.Cond.code ({ cls := "AsleepPass$Way", name := "clear", desc := "()V" } : Jvm.MethodName) prog_11_method_2_code (2 : Nat) (Option.none : Option Jvm.ClassFile.FieldType)) :: (Jvm.Cond.methodLink "AsleepPass$Reader" (28 : Nat) ({ cls := "AsleepPass$Reader", name := "nextToken", desc := "()Z" } : Jvm.MethodName)) :: (Jvm.Cond.privateMethod ({ cls := "AsleepPass$Reader", name := "nextToken", desc := "()Z" } : Jvm.MethodName)) :: (Jvm.Cond.instanceMethod ({ cls := "AsleepPass$Reader", name := "nextToken", desc := "()Z" } : Jvm.MethodName)) :: (Jvm.Cond.code ({ cls := "AsleepPass$Reader", name := "nextToken", desc := "()Z" } : Jvm.MethodName) prog_7_method_5_code (2 : Nat) (Option.some Jvm.ClassFile.FieldType.boolean)) :: (Jvm.Cond.methodLinkNest "AsleepPass$Reader" (73 : Nat) ({ cls := "AsleepPass$Tape", name := "pastAll", desc := "(ICC)I" } : Jvm.MethodName) "AsleepPass") :: (Jvm.Cond.privateMethod ({ cls := "AsleepPass$Tape", name := "pastAll", desc := "(ICC)I" } : Jvm.MethodName)) :: (Jvm.Cond.instanceMethod ({ cls := "AsleepPass$Tape", name := "pastAll", desc := "(ICC)I" } : Jvm.MethodName)) :: (Jvm.Cond.code ({ cls := "AsleepPass$Tape", name := "pastAll", desc := "(ICC)I" } : Jvm.MethodName) prog_9_method_5_code (5 : Nat) (Option.some Jvm.ClassFile.FieldType.int)) :: (Jvm.Cond.methodLinkNest "AsleepPass$Reader" (80 : Nat) ({ cls := "AsleepPass$Tape", name := "byteAt", desc := "(I)I" } : Jvm.MethodName) "AsleepPass") :: (Jvm.Cond.privateMethod ({ cls := "AsleepPass$Tape", name := "byteAt", desc := "(I)I" } : Jvm.MethodName)) :: tE_2_9
def tE_2_7 : List Cond := (Jvm.Cond.code ({ cls := "AsleepPass$Tape", name := "addBytes", desc := "(J)Z" } : Jvm.MethodName) prog_9_method_2_code (4 : Nat) (Option.some Jvm.ClassFile.FieldType.boolean)) :: (Jvm.Cond.constantLong "AsleepPass$Tape" (17 : Nat) (255 : Int64)) :: (Jvm.Cond.methodLink "AsleepPassLaw" (20 : Nat) ({ cls := "AsleepPass", name := "end", desc := "(I)I" } : Jvm.MethodName)) :: (Jvm.Cond.instanceMethod ({ cls := "AsleepPass", name := "end", desc := "(I)I" } : Jvm.MethodName)) :: (Jvm.Cond.selects "AsleepPass" ({ cls := "AsleepPass", name := "end", desc := "(I)I" } : Jvm.MethodName) ({ cls := "AsleepPass", name := "end", desc := "(I)I" } : Jvm.MethodName)) :: (Jvm.Cond.code ({ cls := "AsleepPass", name := "end", desc := "(I)I" } : Jvm.MethodName) prog_1_method_3_code (3 : Nat) (Option.some Jvm.ClassFile.FieldType.int)) :: (Jvm.Cond.methodLink "AsleepPassLaw" (25 : Nat) ({ cls := "AsleepPass", name := "text", desc := "()I" } : Jvm.MethodName)) :: (Jvm.Cond.instanceMethod ({ cls := "AsleepPass", name := "text", desc := "()I" } : Jvm.MethodName)) :: (Jvm.Cond.selects "AsleepPass" ({ cls := "AsleepPass", name := "text", desc := "()I" } : Jvm.MethodName) ({ cls := "AsleepPass", name := "text", desc := "()I" } : Jvm.MethodName)) :: (Jvm.Cond.code ({ cls := "AsleepPass", name := "text", desc := "()I" } : Jvm.MethodName) prog_1_method_4_code (2 : Nat) (Option.some Jvm.ClassFile.FieldType.int)) :: (Jvm.Cond.methodLinkNest "AsleepPass" (97 : Nat) ({ cls := "AsleepPass$Reader", name := "readAll", desc := "()V" } : Jvm.MethodName) "AsleepPass") :: (Jvm.Cond.privateMethod ({ cls := "AsleepPass$Reader", name := "readAll", desc := "()V" } : Jvm.MethodName)) :: (Jvm.Cond.instanceMethod ({ cls := "AsleepPass$Reader", name := "readAll", desc := "()V" } : Jvm.MethodName)) :: (Jvm.Cond.code ({ cls := "AsleepPass$Reader", name := "readAll", desc := "()V" } : Jvm.MethodName) prog_7_method_2_code (2 : Nat) (Option.none : Option Jvm.ClassFile.FieldType)) :: (Jvm.Cond.methodLink "AsleepPass$Reader" (25 : Nat) ({ cls := "AsleepPass$Reader", name := "begin", desc := "()V" } : Jvm.MethodName)) :: (Jvm.Cond.privateMethod ({ cls := "AsleepPass$Reader", name := "begin", desc := "()V" } : Jvm.MethodName)) :: tE_2_8
def tE_2_6 : List Cond := (Jvm.Cond.laysFinal "AsleepPass" "AsleepPass" "trails" "LAsleepPass$Trails;") :: (Jvm.Cond.soleField "AsleepPass" "trails") :: (Jvm.Cond.laysFinal "AsleepPass" "AsleepPass" "sheets" "LAsleepPass$Sheets;") :: (Jvm.Cond.soleField "AsleepPass" "sheets") :: (Jvm.Cond.lays "AsleepPass" "AsleepPass" "textFault" "I") :: (Jvm.Cond.soleField "AsleepPass" "textFault") :: (Jvm.Cond.lays "AsleepPass" "AsleepPass" "readFault" "I") :: (Jvm.Cond.soleField "AsleepPass" "readFault") :: (Jvm.Cond.superclass "AsleepPass" "java/lang/Object") :: (Jvm.Cond.methodLink "AsleepPassLaw" (15 : Nat) ({ cls := "AsleepPass", name := "feed", desc := "(J)I" } : Jvm.MethodName)) :: (Jvm.Cond.instanceMethod ({ cls := "AsleepPass", name := "feed", desc := "(J)I" } : Jvm.MethodName)) :: (Jvm.Cond.selects "AsleepPass" ({ cls := "AsleepPass", name := "feed", desc := "(J)I" } : Jvm.MethodName) ({ cls := "AsleepPass", name := "feed", desc := "(J)I" } : Jvm.MethodName)) :: (Jvm.Cond.code ({ cls := "AsleepPass", name := "feed", desc := "(J)I" } : Jvm.MethodName) prog_1_method_2_code (3 : Nat) (Option.some Jvm.ClassFile.FieldType.int)) :: (Jvm.Cond.methodLinkNest "AsleepPass" (87 : Nat) ({ cls := "AsleepPass$Tape", name := "addBytes", desc := "(J)Z" } : Jvm.MethodName) "AsleepPass") :: (Jvm.Cond.privateMethod ({ cls := "AsleepPass$Tape", name := "addBytes", desc := "(J)Z" } : Jvm.MethodName)) :: (Jvm.Cond.instanceMethod ({ cls := "AsleepPass$Tape", name := "addBytes", desc := "(J)Z" } : Jvm.MethodName)) :: tE_2_7
def tE_2_5 : List Cond := (Jvm.Cond.laysFinal "AsleepPass" "AsleepPass" "trial" "LAsleepPass$Way;") :: (Jvm.Cond.soleField "AsleepPass" "trial") :: (Jvm.Cond.laysFinal "AsleepPass" "AsleepPass" "images" "[LAsleepPass$Way;") :: (Jvm.Cond.soleField "AsleepPass" "images") :: (Jvm.Cond.laysFinal "AsleepPass" "AsleepPass" "kept" "[Z") :: (Jvm.Cond.soleField "AsleepPass" "kept") :: (Jvm.Cond.laysFinal "AsleepPass" "AsleepPass" "odds" "LAsleepPass$Odds;") :: (Jvm.Cond.soleField "AsleepPass" "odds") :: (Jvm.Cond.laysFinal "AsleepPass" "AsleepPass" "choice" "LAsleepPass$Choice;") :: (Jvm.Cond.soleField "AsleepPass" "choice") :: (Jvm.Cond.laysFinal "AsleepPass" "AsleepPass" "crossing" "LAsleepPass$Crossing;") :: (Jvm.Cond.soleField "AsleepPass" "crossing") :: (Jvm.Cond.laysFinal "AsleepPass" "AsleepPass" "learnt" "LAsleepPass$Learnt;") :: (Jvm.Cond.soleField "AsleepPass" "learnt") :: (Jvm.Cond.laysFinal "AsleepPass" "AsleepPass" "marked" "LAsleepPass$Marked;") :: (Jvm.Cond.soleField "AsleepPass" "marked") :: tE_2_6
def tE_2_4 : List Cond := (Jvm.Cond.fieldLink "AsleepPass" (23 : Nat) "AsleepPass" "trial" "LAsleepPass$Way;") :: (Jvm.Cond.fieldLink "AsleepPass" (26 : Nat) "AsleepPass" "images" "[LAsleepPass$Way;") :: (Jvm.Cond.fieldLink "AsleepPass" (30 : Nat) "AsleepPass" "kept" "[Z") :: (Jvm.Cond.fieldLink "AsleepPass" (37 : Nat) "AsleepPass" "odds" "LAsleepPass$Odds;") :: (Jvm.Cond.fieldLink "AsleepPass" (44 : Nat) "AsleepPass" "choice" "LAsleepPass$Choice;") :: (Jvm.Cond.fieldLink "AsleepPass" (51 : Nat) "AsleepPass" "crossing" "LAsleepPass$Crossing;") :: (Jvm.Cond.fieldLink "AsleepPass" (58 : Nat) "AsleepPass" "learnt" "LAsleepPass$Learnt;") :: (Jvm.Cond.fieldLink "AsleepPass" (65 : Nat) "AsleepPass" "marked" "LAsleepPass$Marked;") :: (Jvm.Cond.fieldLink "AsleepPass" (72 : Nat) "AsleepPass" "trails" "LAsleepPass$Trails;") :: (Jvm.Cond.fieldLink "AsleepPass" (79 : Nat) "AsleepPass" "sheets" "LAsleepPass$Sheets;") :: (Jvm.Cond.fieldLink "AsleepPass" (103 : Nat) "AsleepPass" "textFault" "I") :: (Jvm.Cond.fieldLink "AsleepPass" (308 : Nat) "AsleepPass" "readFault" "I") :: (Jvm.Cond.laysFinal "AsleepPass" "AsleepPass" "reader" "LAsleepPass$Reader;") :: (Jvm.Cond.soleField "AsleepPass" "reader") :: (Jvm.Cond.laysFinal "AsleepPass" "AsleepPass" "way" "LAsleepPass$Way;") :: (Jvm.Cond.soleField "AsleepPass" "way") :: tE_2_5
def tE_2_3 : List Cond := (Jvm.Cond.soleField "AsleepPass$Sheets" "lanes") :: (Jvm.Cond.laysFinal "AsleepPass$Sheets" "AsleepPass$Sheets" "sizes" "[I") :: (Jvm.Cond.soleField "AsleepPass$Sheets" "sizes") :: (Jvm.Cond.laysFinal "AsleepPass$Sheets" "AsleepPass$Sheets" "cells" "[[I") :: (Jvm.Cond.soleField "AsleepPass$Sheets" "cells") :: (Jvm.Cond.lays "AsleepPass$Sheets" "AsleepPass$Sheets" "found" "I") :: (Jvm.Cond.soleField "AsleepPass$Sheets" "found") :: (Jvm.Cond.lays "AsleepPass$Sheets" "AsleepPass$Sheets" "pairs" "I") :: (Jvm.Cond.soleField "AsleepPass$Sheets" "pairs") :: (Jvm.Cond.laysFinal "AsleepPass$Sheets" "AsleepPass$Sheets" "firsts" "[I") :: (Jvm.Cond.soleField "AsleepPass$Sheets" "firsts") :: (Jvm.Cond.laysFinal "AsleepPass$Sheets" "AsleepPass$Sheets" "seconds" "[I") :: (Jvm.Cond.soleField "AsleepPass$Sheets" "seconds") :: (Jvm.Cond.superclass "AsleepPass$Sheets" "java/lang/Object") :: (Jvm.Cond.fieldLink "AsleepPass" (10 : Nat) "AsleepPass" "reader" "LAsleepPass$Reader;") :: (Jvm.Cond.fieldLink "AsleepPass" (19 : Nat) "AsleepPass" "way" "LAsleepPass$Way;") :: tE_2_4
def tE_2_2 : List Cond := (Jvm.Cond.instanceMethod ({ cls := "AsleepPass$Sheets", name := "<init>", desc := "()V" } : Jvm.MethodName)) :: (Jvm.Cond.code ({ cls := "AsleepPass$Sheets", name := "<init>", desc := "()V" } : Jvm.MethodName) prog_8_method_1_code (1 : Nat) (Option.none : Option Jvm.ClassFile.FieldType)) :: (Jvm.Cond.methodLink "AsleepPass$Sheets" (3 : Nat) ({ cls := "java/lang/Object", name := "<init>", desc := "()V" } : Jvm.MethodName)) :: (Jvm.Cond.classLink "AsleepPass$Sheets" (18 : Nat) "[[I") :: (Jvm.Cond.fieldLink "AsleepPass$Sheets" (11 : Nat) "AsleepPass$Sheets" "lanes" "[I") :: (Jvm.Cond.fieldLink "AsleepPass$Sheets" (15 : Nat) "AsleepPass$Sheets" "sizes" "[I") :: (Jvm.Cond.fieldLink "AsleepPass$Sheets" (20 : Nat) "AsleepPass$Sheets" "cells" "[[I") :: (Jvm.Cond.fieldLink "AsleepPass$Sheets" (41 : Nat) "AsleepPass$Sheets" "found" "I") :: (Jvm.Cond.fieldLinkNest "AsleepPass" (307 : Nat) "AsleepPass$Sheets" "found" "I" "AsleepPass") :: (Jvm.Cond.fieldLink "AsleepPass$Sheets" (37 : Nat) "AsleepPass$Sheets" "pairs" "I") :: (Jvm.Cond.fieldLinkNest "AsleepPass" (298 : Nat) "AsleepPass$Sheets" "pairs" "I" "AsleepPass") :: (Jvm.Cond.fieldLink "AsleepPass$Sheets" (23 : Nat) "AsleepPass$Sheets" "firsts" "[I") :: (Jvm.Cond.fieldLinkNest "AsleepPass" (301 : Nat) "AsleepPass$Sheets" "firsts" "[I" "AsleepPass") :: (Jvm.Cond.fieldLink "AsleepPass$Sheets" (26 : Nat) "AsleepPass$Sheets" "seconds" "[I") :: (Jvm.Cond.fieldLinkNest "AsleepPass" (304 : Nat) "AsleepPass$Sheets" "seconds" "[I" "AsleepPass") :: (Jvm.Cond.laysFinal "AsleepPass$Sheets" "AsleepPass$Sheets" "lanes" "[I") :: tE_2_3
def tE_2_1 : List Cond := (Jvm.Cond.methodLink "AsleepPass$Trails" (3 : Nat) ({ cls := "java/lang/Object", name := "<init>", desc := "()V" } : Jvm.MethodName)) :: (Jvm.Cond.classLink "AsleepPass$Trails" (9 : Nat) "[[I") :: (Jvm.Cond.fieldLink "AsleepPass$Trails" (43 : Nat) "AsleepPass$Trails" "total" "I") :: (Jvm.Cond.fieldLinkNest "AsleepPass" (261 : Nat) "AsleepPass$Trails" "total" "I" "AsleepPass") :: (Jvm.Cond.fieldLink "AsleepPass$Trails" (11 : Nat) "AsleepPass$Trails" "into" "[[I") :: (Jvm.Cond.fieldLink "AsleepPass$Trails" (16 : Nat) "AsleepPass$Trails" "onward" "[[I") :: (Jvm.Cond.lays "AsleepPass$Trails" "AsleepPass$Trails" "total" "I") :: (Jvm.Cond.soleField "AsleepPass$Trails" "total") :: (Jvm.Cond.laysFinal "AsleepPass$Trails" "AsleepPass$Trails" "into" "[[I") :: (Jvm.Cond.soleField "AsleepPass$Trails" "into") :: (Jvm.Cond.laysFinal "AsleepPass$Trails" "AsleepPass$Trails" "onward" "[[I") :: (Jvm.Cond.soleField "AsleepPass$Trails" "onward") :: (Jvm.Cond.superclass "AsleepPass$Trails" "java/lang/Object") :: (Jvm.Cond.classLink "AsleepPass" (76 : Nat) "AsleepPass$Sheets") :: (Jvm.Cond.instantiable "AsleepPass$Sheets" (7 : Nat)) :: (Jvm.Cond.methodLinkNest "AsleepPass" (78 : Nat) ({ cls := "AsleepPass$Sheets", name := "<init>", desc := "()V" } : Jvm.MethodName) "AsleepPass") :: tE_2_2
def tE_2_0 : List Cond := (Jvm.Cond.fieldLink "AsleepPass$Marked" (16 : Nat) "AsleepPass$Marked" "size" "I") :: (Jvm.Cond.fieldLinkNest "AsleepPass" (119 : Nat) "AsleepPass$Marked" "size" "I" "AsleepPass") :: (Jvm.Cond.fieldLink "AsleepPass$Marked" (9 : Nat) "AsleepPass$Marked" "stretchOf" "[I") :: (Jvm.Cond.fieldLink "AsleepPass$Marked" (13 : Nat) "AsleepPass$Marked" "depthOf" "[I") :: (Jvm.Cond.lays "AsleepPass$Marked" "AsleepPass$Marked" "size" "I") :: (Jvm.Cond.soleField "AsleepPass$Marked" "size") :: (Jvm.Cond.laysFinal "AsleepPass$Marked" "AsleepPass$Marked" "stretchOf" "[I") :: (Jvm.Cond.soleField "AsleepPass$Marked" "stretchOf") :: (Jvm.Cond.laysFinal "AsleepPass$Marked" "AsleepPass$Marked" "depthOf" "[I") :: (Jvm.Cond.soleField "AsleepPass$Marked" "depthOf") :: (Jvm.Cond.superclass "AsleepPass$Marked" "java/lang/Object") :: (Jvm.Cond.classLink "AsleepPass" (69 : Nat) "AsleepPass$Trails") :: (Jvm.Cond.instantiable "AsleepPass$Trails" (3 : Nat)) :: (Jvm.Cond.methodLinkNest "AsleepPass" (71 : Nat) ({ cls := "AsleepPass$Trails", name := "<init>", desc := "()V" } : Jvm.MethodName) "AsleepPass") :: (Jvm.Cond.instanceMethod ({ cls := "AsleepPass$Trails", name := "<init>", desc := "()V" } : Jvm.MethodName)) :: (Jvm.Cond.code ({ cls := "AsleepPass$Trails", name := "<init>", desc := "()V" } : Jvm.MethodName) prog_10_method_1_code (1 : Nat) (Option.none : Option Jvm.ClassFile.FieldType)) :: tE_2_1
set_option maxRecDepth 100000 in
theorem tE_2 : tables_1_2 = tE_2_0 := rfl
theorem sE_2_0 {w : Cond} (h : w ∈ tE_2_0) : w ∈ tables_1 := (List.mem_append_right _ (List.mem_append_left _ (by rw [tE_2]; exact h)))
theorem sE_2_1 {w : Cond} (h : w ∈ tE_2_1) : w ∈ tables_1 := sE_2_0 (mc16 h)
theorem sE_2_2 {w : Cond} (h : w ∈ tE_2_2) : w ∈ tables_1 := sE_2_1 (mc16 h)
theorem sE_2_3 {w : Cond} (h : w ∈ tE_2_3) : w ∈ tables_1 := sE_2_2 (mc16 h)
theorem sE_2_4 {w : Cond} (h : w ∈ tE_2_4) : w ∈ tables_1 := sE_2_3 (mc16 h)
theorem sE_2_5 {w : Cond} (h : w ∈ tE_2_5) : w ∈ tables_1 := sE_2_4 (mc16 h)
theorem sE_2_6 {w : Cond} (h : w ∈ tE_2_6) : w ∈ tables_1 := sE_2_5 (mc16 h)
theorem sE_2_7 {w : Cond} (h : w ∈ tE_2_7) : w ∈ tables_1 := sE_2_6 (mc16 h)
theorem sE_2_8 {w : Cond} (h : w ∈ tE_2_8) : w ∈ tables_1 := sE_2_7 (mc16 h)
theorem sE_2_9 {w : Cond} (h : w ∈ tE_2_9) : w ∈ tables_1 := sE_2_8 (mc16 h)
theorem sE_2_10 {w : Cond} (h : w ∈ tE_2_10) : w ∈ tables_1 := sE_2_9 (mc16 h)
theorem sE_2_11 {w : Cond} (h : w ∈ tE_2_11) : w ∈ tables_1 := sE_2_10 (mc16 h)
theorem sE_2_12 {w : Cond} (h : w ∈ tE_2_12) : w ∈ tables_1 := sE_2_11 (mc16 h)
theorem sE_2_13 {w : Cond} (h : w ∈ tE_2_13) : w ∈ tables_1 := sE_2_12 (mc16 h)
theorem sE_2_14 {w : Cond} (h : w ∈ tE_2_14) : w ∈ tables_1 := sE_2_13 (mc16 h)
def tE_3_14 : List Cond := (Jvm.Cond.privateMethod ({ cls := "AsleepPass", name := "stopNoises", desc := "(I)V" } : Jvm.MethodName)) :: (Jvm.Cond.instanceMethod ({ cls := "AsleepPass", name := "stopNoises", desc := "(I)V" } : Jvm.MethodName)) :: (Jvm.Cond.code ({ cls := "AsleepPass", name := "stopNoises", desc := "(I)V" } : Jvm.MethodName) prog_1_method_24_code (3 : Nat) (Option.none : Option Jvm.ClassFile.FieldType)) :: (Jvm.Cond.methodLink "AsleepPassLaw" (107 : Nat) ({ cls := "AsleepPass", name := "drop", desc := "(I)J" } : Jvm.MethodName)) :: (Jvm.Cond.instanceMethod ({ cls := "AsleepPass", name := "drop", desc := "(I)J" } : Jvm.MethodName)) :: (Jvm.Cond.selects "AsleepPass" ({ cls := "AsleepPass", name := "drop", desc := "(I)J" } : Jvm.MethodName) ({ cls := "AsleepPass", name := "drop", desc := "(I)J" } : Jvm.MethodName)) :: (Jvm.Cond.code ({ cls := "AsleepPass", name := "drop", desc := "(I)J" } : Jvm.MethodName) prog_1_method_25_code (8 : Nat) (Option.some Jvm.ClassFile.FieldType.long)) :: (Jvm.Cond.methodLink "AsleepPassLaw" (111 : Nat) ({ cls := "AsleepPass", name := "swap", desc := "(I)J" } : Jvm.MethodName)) :: (Jvm.Cond.instanceMethod ({ cls := "AsleepPass", name := "swap", desc := "(I)J" } : Jvm.MethodName)) :: (Jvm.Cond.selects "AsleepPass" ({ cls := "AsleepPass", name := "swap", desc := "(I)J" } : Jvm.MethodName) ({ cls := "AsleepPass", name := "swap", desc := "(I)J" } : Jvm.MethodName)) :: (Jvm.Cond.code ({ cls := "AsleepPass", name := "swap", desc := "(I)J" } : Jvm.MethodName) prog_1_method_26_code (9 : Nat) (Option.some Jvm.ClassFile.FieldType.long)) :: (Jvm.Cond.methodLinkNest "AsleepPass" (230 : Nat) ({ cls := "AsleepPass$Way", name := "exchange", desc := "(II)V" } : Jvm.MethodName) "AsleepPass") :: (Jvm.Cond.privateMethod ({ cls := "AsleepPass$Way", name := "exchange", desc := "(II)V" } : Jvm.MethodName)) :: (Jvm.Cond.instanceMethod ({ cls := "AsleepPass$Way", name := "exchange", desc := "(II)V" } : Jvm.MethodName)) :: (Jvm.Cond.code ({ cls := "AsleepPass$Way", name := "exchange", desc := "(II)V" } : Jvm.MethodName) prog_11_method_14_code (4 : Nat) (Option.none : Option Jvm.ClassFile.FieldType)) :: (Jvm.Cond.methodLink "AsleepPassLaw" (115 : Nat) ({ cls := "AsleepPass", name := "carry", desc := "(II)I" } : Jvm.MethodName)) :: []
def tE_3_13 : List Cond := (Jvm.Cond.code ({ cls := "AsleepPass", name := "without", desc := "(II)J" } : Jvm.MethodName) prog_1_method_22_code (3 : Nat) (Option.some Jvm.ClassFile.FieldType.long)) :: (Jvm.Cond.constantLong "AsleepPass" (215 : Nat) (-2 : Int64)) :: (Jvm.Cond.methodLink "AsleepPassLaw" (103 : Nat) ({ cls := "AsleepPass", name := "quiet", desc := "(II)J" } : Jvm.MethodName)) :: (Jvm.Cond.instanceMethod ({ cls := "AsleepPass", name := "quiet", desc := "(II)J" } : Jvm.MethodName)) :: (Jvm.Cond.selects "AsleepPass" ({ cls := "AsleepPass", name := "quiet", desc := "(II)J" } : Jvm.MethodName) ({ cls := "AsleepPass", name := "quiet", desc := "(II)J" } : Jvm.MethodName)) :: (Jvm.Cond.code ({ cls := "AsleepPass", name := "quiet", desc := "(II)J" } : Jvm.MethodName) prog_1_method_23_code (10 : Nat) (Option.some Jvm.ClassFile.FieldType.long)) :: (Jvm.Cond.methodLink "AsleepPass" (217 : Nat) ({ cls := "AsleepPass", name := "isAnswerPart", desc := "(I)Z" } : Jvm.MethodName)) :: (Jvm.Cond.static ({ cls := "AsleepPass", name := "isAnswerPart", desc := "(I)Z" } : Jvm.MethodName)) :: (Jvm.Cond.code ({ cls := "AsleepPass", name := "isAnswerPart", desc := "(I)Z" } : Jvm.MethodName) prog_1_method_44_code (1 : Nat) (Option.some Jvm.ClassFile.FieldType.boolean)) :: (Jvm.Cond.methodLink "AsleepPass" (220 : Nat) ({ cls := "java/lang/Integer", name := "bitCount", desc := "(I)I" } : Jvm.MethodName)) :: (Jvm.Cond.static ({ cls := "java/lang/Integer", name := "bitCount", desc := "(I)I" } : Jvm.MethodName)) :: (Jvm.Cond.code ({ cls := "java/lang/Integer", name := "bitCount", desc := "(I)I" } : Jvm.MethodName) prog_14_method_49_code (1 : Nat) (Option.some Jvm.ClassFile.FieldType.int)) :: (Jvm.Cond.constant "java/lang/Integer" (265 : Nat) (1431655765 : Int32)) :: (Jvm.Cond.constant "java/lang/Integer" (266 : Nat) (858993459 : Int32)) :: (Jvm.Cond.constant "java/lang/Integer" (267 : Nat) (252645135 : Int32)) :: (Jvm.Cond.methodLink "AsleepPass" (226 : Nat) ({ cls := "AsleepPass", name := "stopNoises", desc := "(I)V" } : Jvm.MethodName)) :: tE_3_14
def tE_3_12 : List Cond := (Jvm.Cond.privateMethod ({ cls := "AsleepPass$Choice", name := "weigh", desc := "(IIII)V" } : Jvm.MethodName)) :: (Jvm.Cond.instanceMethod ({ cls := "AsleepPass$Choice", name := "weigh", desc := "(IIII)V" } : Jvm.MethodName)) :: (Jvm.Cond.code ({ cls := "AsleepPass$Choice", name := "weigh", desc := "(IIII)V" } : Jvm.MethodName) prog_2_method_5_code (12 : Nat) (Option.none : Option Jvm.ClassFile.FieldType)) :: (Jvm.Cond.methodLink "AsleepPass$Choice" (54 : Nat) ({ cls := "java/lang/Math", name := "min", desc := "(II)I" } : Jvm.MethodName)) :: (Jvm.Cond.methodLinkNest "AsleepPass" (202 : Nat) ({ cls := "AsleepPass$Choice", name := "wakingAtFirst", desc := "(LAsleepPass$Way;)J" } : Jvm.MethodName) "AsleepPass") :: (Jvm.Cond.privateMethod ({ cls := "AsleepPass$Choice", name := "wakingAtFirst", desc := "(LAsleepPass$Way;)J" } : Jvm.MethodName)) :: (Jvm.Cond.instanceMethod ({ cls := "AsleepPass$Choice", name := "wakingAtFirst", desc := "(LAsleepPass$Way;)J" } : Jvm.MethodName)) :: (Jvm.Cond.code ({ cls := "AsleepPass$Choice", name := "wakingAtFirst", desc := "(LAsleepPass$Way;)J" } : Jvm.MethodName) prog_2_method_6_code (2 : Nat) (Option.some Jvm.ClassFile.FieldType.long)) :: (Jvm.Cond.methodLink "AsleepPassLaw" (95 : Nat) ({ cls := "AsleepPass", name := "next", desc := "(III)I" } : Jvm.MethodName)) :: (Jvm.Cond.instanceMethod ({ cls := "AsleepPass", name := "next", desc := "(III)I" } : Jvm.MethodName)) :: (Jvm.Cond.selects "AsleepPass" ({ cls := "AsleepPass", name := "next", desc := "(III)I" } : Jvm.MethodName) ({ cls := "AsleepPass", name := "next", desc := "(III)I" } : Jvm.MethodName)) :: (Jvm.Cond.code ({ cls := "AsleepPass", name := "next", desc := "(III)I" } : Jvm.MethodName) prog_1_method_21_code (5 : Nat) (Option.some Jvm.ClassFile.FieldType.int)) :: (Jvm.Cond.methodLinkNest "AsleepPass" (211 : Nat) ({ cls := "AsleepPass$Choice", name := "slot", desc := "(II)I" } : Jvm.MethodName) "AsleepPass") :: (Jvm.Cond.methodLink "AsleepPassLaw" (99 : Nat) ({ cls := "AsleepPass", name := "without", desc := "(II)J" } : Jvm.MethodName)) :: (Jvm.Cond.instanceMethod ({ cls := "AsleepPass", name := "without", desc := "(II)J" } : Jvm.MethodName)) :: (Jvm.Cond.selects "AsleepPass" ({ cls := "AsleepPass", name := "without", desc := "(II)J" } : Jvm.MethodName) ({ cls := "AsleepPass", name := "without", desc := "(II)J" } : Jvm.MethodName)) :: tE_3_13
def tE_3_11 : List Cond := (Jvm.Cond.code ({ cls := "AsleepPass", name := "best", desc := "(I)J" } : Jvm.MethodName) prog_1_method_20_code (2 : Nat) (Option.some Jvm.ClassFile.FieldType.long)) :: (Jvm.Cond.methodLinkNest "AsleepPass" (198 : Nat) ({ cls := "AsleepPass$Choice", name := "plan", desc := "(LAsleepPass$Way;I)V" } : Jvm.MethodName) "AsleepPass") :: (Jvm.Cond.privateMethod ({ cls := "AsleepPass$Choice", name := "plan", desc := "(LAsleepPass$Way;I)V" } : Jvm.MethodName)) :: (Jvm.Cond.instanceMethod ({ cls := "AsleepPass$Choice", name := "plan", desc := "(LAsleepPass$Way;I)V" } : Jvm.MethodName)) :: (Jvm.Cond.code ({ cls := "AsleepPass$Choice", name := "plan", desc := "(LAsleepPass$Way;I)V" } : Jvm.MethodName) prog_2_method_3_code (5 : Nat) (Option.none : Option Jvm.ClassFile.FieldType)) :: (Jvm.Cond.constantLong "AsleepPass$Choice" (31 : Nat) (20 : Int64)) :: (Jvm.Cond.methodLink "AsleepPass$Choice" (33 : Nat) ({ cls := "AsleepPass$Choice", name := "chooseFrom", desc := "(LAsleepPass$Way;III)V" } : Jvm.MethodName)) :: (Jvm.Cond.privateMethod ({ cls := "AsleepPass$Choice", name := "chooseFrom", desc := "(LAsleepPass$Way;III)V" } : Jvm.MethodName)) :: (Jvm.Cond.instanceMethod ({ cls := "AsleepPass$Choice", name := "chooseFrom", desc := "(LAsleepPass$Way;III)V" } : Jvm.MethodName)) :: (Jvm.Cond.code ({ cls := "AsleepPass$Choice", name := "chooseFrom", desc := "(LAsleepPass$Way;III)V" } : Jvm.MethodName) prog_2_method_4_code (6 : Nat) (Option.none : Option Jvm.ClassFile.FieldType)) :: (Jvm.Cond.methodLink "AsleepPass$Choice" (40 : Nat) ({ cls := "AsleepPass$Choice", name := "slot", desc := "(II)I" } : Jvm.MethodName)) :: (Jvm.Cond.static ({ cls := "AsleepPass$Choice", name := "slot", desc := "(II)I" } : Jvm.MethodName)) :: (Jvm.Cond.code ({ cls := "AsleepPass$Choice", name := "slot", desc := "(II)I" } : Jvm.MethodName) prog_2_method_2_code (2 : Nat) (Option.some Jvm.ClassFile.FieldType.int)) :: (Jvm.Cond.constantLong "AsleepPass$Choice" (44 : Nat) (1152921504606846976 : Int64)) :: (Jvm.Cond.methodLinkNest "AsleepPass$Choice" (46 : Nat) ({ cls := "AsleepPass$Way", name := "harmBy", desc := "(III)I" } : Jvm.MethodName) "AsleepPass") :: (Jvm.Cond.methodLink "AsleepPass$Choice" (50 : Nat) ({ cls := "AsleepPass$Choice", name := "weigh", desc := "(IIII)V" } : Jvm.MethodName)) :: tE_3_12
def tE_3_10 : List Cond := (Jvm.Cond.code ({ cls := "AsleepPass", name := "commonDivisor", desc := "(JJ)J" } : Jvm.MethodName) prog_1_method_48_code (11 : Nat) (Option.some Jvm.ClassFile.FieldType.long)) :: (Jvm.Cond.methodLink "AsleepPassLaw" (81 : Nat) ({ cls := "AsleepPass", name := "awake", desc := "(II)J" } : Jvm.MethodName)) :: (Jvm.Cond.instanceMethod ({ cls := "AsleepPass", name := "awake", desc := "(II)J" } : Jvm.MethodName)) :: (Jvm.Cond.selects "AsleepPass" ({ cls := "AsleepPass", name := "awake", desc := "(II)J" } : Jvm.MethodName) ({ cls := "AsleepPass", name := "awake", desc := "(II)J" } : Jvm.MethodName)) :: (Jvm.Cond.code ({ cls := "AsleepPass", name := "awake", desc := "(II)J" } : Jvm.MethodName) prog_1_method_18_code (3 : Nat) (Option.some Jvm.ClassFile.FieldType.long)) :: (Jvm.Cond.methodLink "AsleepPass" (187 : Nat) ({ cls := "AsleepPass", name := "depth", desc := "(III)J" } : Jvm.MethodName)) :: (Jvm.Cond.instanceMethod ({ cls := "AsleepPass", name := "depth", desc := "(III)J" } : Jvm.MethodName)) :: (Jvm.Cond.selects "AsleepPass" ({ cls := "AsleepPass", name := "depth", desc := "(III)J" } : Jvm.MethodName) ({ cls := "AsleepPass", name := "depth", desc := "(III)J" } : Jvm.MethodName)) :: (Jvm.Cond.code ({ cls := "AsleepPass", name := "depth", desc := "(III)J" } : Jvm.MethodName) prog_1_method_19_code (4 : Nat) (Option.some Jvm.ClassFile.FieldType.long)) :: (Jvm.Cond.methodLink "AsleepPass" (191 : Nat) ({ cls := "AsleepPass", name := "isDepth", desc := "(I)Z" } : Jvm.MethodName)) :: (Jvm.Cond.static ({ cls := "AsleepPass", name := "isDepth", desc := "(I)Z" } : Jvm.MethodName)) :: (Jvm.Cond.code ({ cls := "AsleepPass", name := "isDepth", desc := "(I)Z" } : Jvm.MethodName) prog_1_method_45_code (1 : Nat) (Option.some Jvm.ClassFile.FieldType.boolean)) :: (Jvm.Cond.methodLink "AsleepPassLaw" (86 : Nat) ({ cls := "AsleepPass", name := "depth", desc := "(III)J" } : Jvm.MethodName)) :: (Jvm.Cond.methodLink "AsleepPassLaw" (91 : Nat) ({ cls := "AsleepPass", name := "best", desc := "(I)J" } : Jvm.MethodName)) :: (Jvm.Cond.instanceMethod ({ cls := "AsleepPass", name := "best", desc := "(I)J" } : Jvm.MethodName)) :: (Jvm.Cond.selects "AsleepPass" ({ cls := "AsleepPass", name := "best", desc := "(I)J" } : Jvm.MethodName) ({ cls := "AsleepPass", name := "best", desc := "(I)J" } : Jvm.MethodName)) :: tE_3_11
def tE_3_9 : List Cond := (Jvm.Cond.methodLink "AsleepPass$Odds" (47 : Nat) ({ cls := "java/lang/Math", name := "min", desc := "(II)I" } : Jvm.MethodName)) :: (Jvm.Cond.methodLinkNest "AsleepPass$Odds" (35 : Nat) ({ cls := "AsleepPass$Way", name := "harmInOrder", desc := "(I)I" } : Jvm.MethodName) "AsleepPass") :: (Jvm.Cond.privateMethod ({ cls := "AsleepPass$Way", name := "harmInOrder", desc := "(I)I" } : Jvm.MethodName)) :: (Jvm.Cond.instanceMethod ({ cls := "AsleepPass$Way", name := "harmInOrder", desc := "(I)I" } : Jvm.MethodName)) :: (Jvm.Cond.code ({ cls := "AsleepPass$Way", name := "harmInOrder", desc := "(I)I" } : Jvm.MethodName) prog_11_method_13_code (2 : Nat) (Option.some Jvm.ClassFile.FieldType.int)) :: (Jvm.Cond.methodLink "AsleepPass$Way" (79 : Nat) ({ cls := "AsleepPass$Way", name := "harmBy", desc := "(III)I" } : Jvm.MethodName)) :: (Jvm.Cond.methodLink "AsleepPass$Odds" (39 : Nat) ({ cls := "AsleepPass$Odds", name := "pass", desc := "(I)V" } : Jvm.MethodName)) :: (Jvm.Cond.privateMethod ({ cls := "AsleepPass$Odds", name := "pass", desc := "(I)V" } : Jvm.MethodName)) :: (Jvm.Cond.instanceMethod ({ cls := "AsleepPass$Odds", name := "pass", desc := "(I)V" } : Jvm.MethodName)) :: (Jvm.Cond.code ({ cls := "AsleepPass$Odds", name := "pass", desc := "(I)V" } : Jvm.MethodName) prog_6_method_5_code (3 : Nat) (Option.none : Option Jvm.ClassFile.FieldType)) :: (Jvm.Cond.constantLong "AsleepPass$Odds" (45 : Nat) (20 : Int64)) :: (Jvm.Cond.methodLink "AsleepPass" (183 : Nat) ({ cls := "AsleepPass", name := "fraction", desc := "(JJI)J" } : Jvm.MethodName)) :: (Jvm.Cond.static ({ cls := "AsleepPass", name := "fraction", desc := "(JJI)J" } : Jvm.MethodName)) :: (Jvm.Cond.code ({ cls := "AsleepPass", name := "fraction", desc := "(JJI)J" } : Jvm.MethodName) prog_1_method_47_code (7 : Nat) (Option.some Jvm.ClassFile.FieldType.long)) :: (Jvm.Cond.methodLink "AsleepPass" (318 : Nat) ({ cls := "AsleepPass", name := "commonDivisor", desc := "(JJ)J" } : Jvm.MethodName)) :: (Jvm.Cond.static ({ cls := "AsleepPass", name := "commonDivisor", desc := "(JJ)J" } : Jvm.MethodName)) :: tE_3_10
def tE_3_8 : List Cond := (Jvm.Cond.methodLinkNest "AsleepPass" (175 : Nat) ({ cls := "AsleepPass$Odds", name := "waking", desc := "(LAsleepPass$Way;II)J" } : Jvm.MethodName) "AsleepPass") :: (Jvm.Cond.privateMethod ({ cls := "AsleepPass$Odds", name := "waking", desc := "(LAsleepPass$Way;II)J" } : Jvm.MethodName)) :: (Jvm.Cond.instanceMethod ({ cls := "AsleepPass$Odds", name := "waking", desc := "(LAsleepPass$Way;II)J" } : Jvm.MethodName)) :: (Jvm.Cond.code ({ cls := "AsleepPass$Odds", name := "waking", desc := "(LAsleepPass$Way;II)J" } : Jvm.MethodName) prog_6_method_2_code (5 : Nat) (Option.some Jvm.ClassFile.FieldType.long)) :: (Jvm.Cond.methodLink "AsleepPass$Odds" (28 : Nat) ({ cls := "AsleepPass$Odds", name := "begin", desc := "(I)V" } : Jvm.MethodName)) :: (Jvm.Cond.privateMethod ({ cls := "AsleepPass$Odds", name := "begin", desc := "(I)V" } : Jvm.MethodName)) :: (Jvm.Cond.instanceMethod ({ cls := "AsleepPass$Odds", name := "begin", desc := "(I)V" } : Jvm.MethodName)) :: (Jvm.Cond.code ({ cls := "AsleepPass$Odds", name := "begin", desc := "(I)V" } : Jvm.MethodName) prog_6_method_3_code (3 : Nat) (Option.none : Option Jvm.ClassFile.FieldType)) :: (Jvm.Cond.methodLink "AsleepPass$Odds" (32 : Nat) ({ cls := "AsleepPass$Odds", name := "deepen", desc := "()V" } : Jvm.MethodName)) :: (Jvm.Cond.privateMethod ({ cls := "AsleepPass$Odds", name := "deepen", desc := "()V" } : Jvm.MethodName)) :: (Jvm.Cond.instanceMethod ({ cls := "AsleepPass$Odds", name := "deepen", desc := "()V" } : Jvm.MethodName)) :: (Jvm.Cond.code ({ cls := "AsleepPass$Odds", name := "deepen", desc := "()V" } : Jvm.MethodName) prog_6_method_6_code (2 : Nat) (Option.none : Option Jvm.ClassFile.FieldType)) :: (Jvm.Cond.methodLink "AsleepPass$Odds" (42 : Nat) ({ cls := "AsleepPass$Odds", name := "takeAhead", desc := "()V" } : Jvm.MethodName)) :: (Jvm.Cond.privateMethod ({ cls := "AsleepPass$Odds", name := "takeAhead", desc := "()V" } : Jvm.MethodName)) :: (Jvm.Cond.instanceMethod ({ cls := "AsleepPass$Odds", name := "takeAhead", desc := "()V" } : Jvm.MethodName)) :: (Jvm.Cond.code ({ cls := "AsleepPass$Odds", name := "takeAhead", desc := "()V" } : Jvm.MethodName) prog_6_method_4_code (2 : Nat) (Option.none : Option Jvm.ClassFile.FieldType)) :: tE_3_9
def tE_3_7 : List Cond := (Jvm.Cond.instanceMethod ({ cls := "AsleepPass$Way", name := "joltBy", desc := "(II)I" } : Jvm.MethodName)) :: (Jvm.Cond.code ({ cls := "AsleepPass$Way", name := "joltBy", desc := "(II)I" } : Jvm.MethodName) prog_11_method_12_code (4 : Nat) (Option.some Jvm.ClassFile.FieldType.int)) :: (Jvm.Cond.methodLink "AsleepPass$Way" (75 : Nat) ({ cls := "java/lang/Math", name := "abs", desc := "(I)I" } : Jvm.MethodName)) :: (Jvm.Cond.static ({ cls := "java/lang/Math", name := "abs", desc := "(I)I" } : Jvm.MethodName)) :: (Jvm.Cond.code ({ cls := "java/lang/Math", name := "abs", desc := "(I)I" } : Jvm.MethodName) prog_15_method_59_code (1 : Nat) (Option.some Jvm.ClassFile.FieldType.int)) :: (Jvm.Cond.methodLink "AsleepPass$Way" (67 : Nat) ({ cls := "java/lang/Math", name := "min", desc := "(II)I" } : Jvm.MethodName)) :: (Jvm.Cond.static ({ cls := "java/lang/Math", name := "min", desc := "(II)I" } : Jvm.MethodName)) :: (Jvm.Cond.code ({ cls := "java/lang/Math", name := "min", desc := "(II)I" } : Jvm.MethodName) prog_15_method_69_code (2 : Nat) (Option.some Jvm.ClassFile.FieldType.int)) :: (Jvm.Cond.methodLink "AsleepPassLaw" (76 : Nat) ({ cls := "AsleepPass", name := "wakes", desc := "(I)J" } : Jvm.MethodName)) :: (Jvm.Cond.instanceMethod ({ cls := "AsleepPass", name := "wakes", desc := "(I)J" } : Jvm.MethodName)) :: (Jvm.Cond.selects "AsleepPass" ({ cls := "AsleepPass", name := "wakes", desc := "(I)J" } : Jvm.MethodName) ({ cls := "AsleepPass", name := "wakes", desc := "(I)J" } : Jvm.MethodName)) :: (Jvm.Cond.code ({ cls := "AsleepPass", name := "wakes", desc := "(I)J" } : Jvm.MethodName) prog_1_method_17_code (2 : Nat) (Option.some Jvm.ClassFile.FieldType.long)) :: (Jvm.Cond.methodLink "AsleepPass" (170 : Nat) ({ cls := "AsleepPass", name := "isFractionPart", desc := "(I)Z" } : Jvm.MethodName)) :: (Jvm.Cond.static ({ cls := "AsleepPass", name := "isFractionPart", desc := "(I)Z" } : Jvm.MethodName)) :: (Jvm.Cond.code ({ cls := "AsleepPass", name := "isFractionPart", desc := "(I)Z" } : Jvm.MethodName) prog_1_method_43_code (1 : Nat) (Option.some Jvm.ClassFile.FieldType.boolean)) :: (Jvm.Cond.constantLong "AsleepPass" (173 : Nat) (-1 : Int64)) :: tE_3_8
def tE_3_6 : List Cond := (Jvm.Cond.methodLinkNest "AsleepPass" (166 : Nat) ({ cls := "AsleepPass$Way", name := "harmBy", desc := "(III)I" } : Jvm.MethodName) "AsleepPass") :: (Jvm.Cond.privateMethod ({ cls := "AsleepPass$Way", name := "harmBy", desc := "(III)I" } : Jvm.MethodName)) :: (Jvm.Cond.instanceMethod ({ cls := "AsleepPass$Way", name := "harmBy", desc := "(III)I" } : Jvm.MethodName)) :: (Jvm.Cond.code ({ cls := "AsleepPass$Way", name := "harmBy", desc := "(III)I" } : Jvm.MethodName) prog_11_method_9_code (4 : Nat) (Option.some Jvm.ClassFile.FieldType.int)) :: (Jvm.Cond.methodLink "AsleepPass$Way" (53 : Nat) ({ cls := "AsleepPass$Way", name := "canHand", desc := "(III)Z" } : Jvm.MethodName)) :: (Jvm.Cond.methodLink "AsleepPass$Way" (57 : Nat) ({ cls := "AsleepPass$Way", name := "noiseBy", desc := "(II)I" } : Jvm.MethodName)) :: (Jvm.Cond.privateMethod ({ cls := "AsleepPass$Way", name := "noiseBy", desc := "(II)I" } : Jvm.MethodName)) :: (Jvm.Cond.instanceMethod ({ cls := "AsleepPass$Way", name := "noiseBy", desc := "(II)I" } : Jvm.MethodName)) :: (Jvm.Cond.code ({ cls := "AsleepPass$Way", name := "noiseBy", desc := "(II)I" } : Jvm.MethodName) prog_11_method_10_code (4 : Nat) (Option.some Jvm.ClassFile.FieldType.int)) :: (Jvm.Cond.methodLink "AsleepPass$Way" (72 : Nat) ({ cls := "java/lang/Math", name := "max", desc := "(II)I" } : Jvm.MethodName)) :: (Jvm.Cond.methodLink "AsleepPass$Way" (61 : Nat) ({ cls := "AsleepPass$Way", name := "coldBy", desc := "(II)I" } : Jvm.MethodName)) :: (Jvm.Cond.privateMethod ({ cls := "AsleepPass$Way", name := "coldBy", desc := "(II)I" } : Jvm.MethodName)) :: (Jvm.Cond.instanceMethod ({ cls := "AsleepPass$Way", name := "coldBy", desc := "(II)I" } : Jvm.MethodName)) :: (Jvm.Cond.code ({ cls := "AsleepPass$Way", name := "coldBy", desc := "(II)I" } : Jvm.MethodName) prog_11_method_11_code (4 : Nat) (Option.some Jvm.ClassFile.FieldType.int)) :: (Jvm.Cond.methodLink "AsleepPass$Way" (64 : Nat) ({ cls := "AsleepPass$Way", name := "joltBy", desc := "(II)I" } : Jvm.MethodName)) :: (Jvm.Cond.privateMethod ({ cls := "AsleepPass$Way", name := "joltBy", desc := "(II)I" } : Jvm.MethodName)) :: tE_3_7
def tE_3_5 : List Cond := (Jvm.Cond.selects "AsleepPass" ({ cls := "AsleepPass", name := "warm", desc := "(II)I" } : Jvm.MethodName) ({ cls := "AsleepPass", name := "warm", desc := "(II)I" } : Jvm.MethodName)) :: (Jvm.Cond.code ({ cls := "AsleepPass", name := "warm", desc := "(II)I" } : Jvm.MethodName) prog_1_method_13_code (3 : Nat) (Option.some Jvm.ClassFile.FieldType.int)) :: (Jvm.Cond.methodLink "AsleepPassLaw" (67 : Nat) ({ cls := "AsleepPass", name := "put", desc := "(II)I" } : Jvm.MethodName)) :: (Jvm.Cond.instanceMethod ({ cls := "AsleepPass", name := "put", desc := "(II)I" } : Jvm.MethodName)) :: (Jvm.Cond.selects "AsleepPass" ({ cls := "AsleepPass", name := "put", desc := "(II)I" } : Jvm.MethodName) ({ cls := "AsleepPass", name := "put", desc := "(II)I" } : Jvm.MethodName)) :: (Jvm.Cond.code ({ cls := "AsleepPass", name := "put", desc := "(II)I" } : Jvm.MethodName) prog_1_method_14_code (4 : Nat) (Option.some Jvm.ClassFile.FieldType.int)) :: (Jvm.Cond.methodLink "AsleepPassLaw" (71 : Nat) ({ cls := "AsleepPass", name := "harm", desc := "(III)I" } : Jvm.MethodName)) :: (Jvm.Cond.instanceMethod ({ cls := "AsleepPass", name := "harm", desc := "(III)I" } : Jvm.MethodName)) :: (Jvm.Cond.selects "AsleepPass" ({ cls := "AsleepPass", name := "harm", desc := "(III)I" } : Jvm.MethodName) ({ cls := "AsleepPass", name := "harm", desc := "(III)I" } : Jvm.MethodName)) :: (Jvm.Cond.code ({ cls := "AsleepPass", name := "harm", desc := "(III)I" } : Jvm.MethodName) prog_1_method_16_code (4 : Nat) (Option.some Jvm.ClassFile.FieldType.int)) :: (Jvm.Cond.methodLinkNest "AsleepPass" (162 : Nat) ({ cls := "AsleepPass$Way", name := "canHand", desc := "(III)Z" } : Jvm.MethodName) "AsleepPass") :: (Jvm.Cond.privateMethod ({ cls := "AsleepPass$Way", name := "canHand", desc := "(III)Z" } : Jvm.MethodName)) :: (Jvm.Cond.instanceMethod ({ cls := "AsleepPass$Way", name := "canHand", desc := "(III)Z" } : Jvm.MethodName)) :: (Jvm.Cond.code ({ cls := "AsleepPass$Way", name := "canHand", desc := "(III)Z" } : Jvm.MethodName) prog_11_method_8_code (4 : Nat) (Option.some Jvm.ClassFile.FieldType.boolean)) :: (Jvm.Cond.methodLink "AsleepPass$Way" (46 : Nat) ({ cls := "AsleepPass$Way", name := "hasStretch", desc := "(I)Z" } : Jvm.MethodName)) :: (Jvm.Cond.methodLink "AsleepPass$Way" (50 : Nat) ({ cls := "AsleepPass$Way", name := "hasBearer", desc := "(I)Z" } : Jvm.MethodName)) :: tE_3_6
def tE_3_4 : List Cond := (Jvm.Cond.instanceMethod ({ cls := "AsleepPass", name := "noise", desc := "(II)I" } : Jvm.MethodName)) :: (Jvm.Cond.selects "AsleepPass" ({ cls := "AsleepPass", name := "noise", desc := "(II)I" } : Jvm.MethodName) ({ cls := "AsleepPass", name := "noise", desc := "(II)I" } : Jvm.MethodName)) :: (Jvm.Cond.code ({ cls := "AsleepPass", name := "noise", desc := "(II)I" } : Jvm.MethodName) prog_1_method_10_code (3 : Nat) (Option.some Jvm.ClassFile.FieldType.int)) :: (Jvm.Cond.methodLink "AsleepPass" (158 : Nat) ({ cls := "AsleepPass", name := "change", desc := "([III)I" } : Jvm.MethodName)) :: (Jvm.Cond.static ({ cls := "AsleepPass", name := "change", desc := "([III)I" } : Jvm.MethodName)) :: (Jvm.Cond.code ({ cls := "AsleepPass", name := "change", desc := "([III)I" } : Jvm.MethodName) prog_1_method_15_code (4 : Nat) (Option.some Jvm.ClassFile.FieldType.int)) :: (Jvm.Cond.methodLink "AsleepPassLaw" (55 : Nat) ({ cls := "AsleepPass", name := "cold", desc := "(II)I" } : Jvm.MethodName)) :: (Jvm.Cond.instanceMethod ({ cls := "AsleepPass", name := "cold", desc := "(II)I" } : Jvm.MethodName)) :: (Jvm.Cond.selects "AsleepPass" ({ cls := "AsleepPass", name := "cold", desc := "(II)I" } : Jvm.MethodName) ({ cls := "AsleepPass", name := "cold", desc := "(II)I" } : Jvm.MethodName)) :: (Jvm.Cond.code ({ cls := "AsleepPass", name := "cold", desc := "(II)I" } : Jvm.MethodName) prog_1_method_11_code (3 : Nat) (Option.some Jvm.ClassFile.FieldType.int)) :: (Jvm.Cond.methodLink "AsleepPassLaw" (59 : Nat) ({ cls := "AsleepPass", name := "step", desc := "(II)I" } : Jvm.MethodName)) :: (Jvm.Cond.instanceMethod ({ cls := "AsleepPass", name := "step", desc := "(II)I" } : Jvm.MethodName)) :: (Jvm.Cond.selects "AsleepPass" ({ cls := "AsleepPass", name := "step", desc := "(II)I" } : Jvm.MethodName) ({ cls := "AsleepPass", name := "step", desc := "(II)I" } : Jvm.MethodName)) :: (Jvm.Cond.code ({ cls := "AsleepPass", name := "step", desc := "(II)I" } : Jvm.MethodName) prog_1_method_12_code (3 : Nat) (Option.some Jvm.ClassFile.FieldType.int)) :: (Jvm.Cond.methodLink "AsleepPassLaw" (63 : Nat) ({ cls := "AsleepPass", name := "warm", desc := "(II)I" } : Jvm.MethodName)) :: (Jvm.Cond.instanceMethod ({ cls := "AsleepPass", name := "warm", desc := "(II)I" } : Jvm.MethodName)) :: tE_3_5
def tE_3_3 : List Cond := (Jvm.Cond.privateMethod ({ cls := "AsleepPass$Way", name := "hasStretch", desc := "(I)Z" } : Jvm.MethodName)) :: (Jvm.Cond.instanceMethod ({ cls := "AsleepPass$Way", name := "hasStretch", desc := "(I)Z" } : Jvm.MethodName)) :: (Jvm.Cond.code ({ cls := "AsleepPass$Way", name := "hasStretch", desc := "(I)Z" } : Jvm.MethodName) prog_11_method_4_code (2 : Nat) (Option.some Jvm.ClassFile.FieldType.boolean)) :: (Jvm.Cond.methodLink "AsleepPassLaw" (43 : Nat) ({ cls := "AsleepPass", name := "bearer", desc := "(II)I" } : Jvm.MethodName)) :: (Jvm.Cond.instanceMethod ({ cls := "AsleepPass", name := "bearer", desc := "(II)I" } : Jvm.MethodName)) :: (Jvm.Cond.selects "AsleepPass" ({ cls := "AsleepPass", name := "bearer", desc := "(II)I" } : Jvm.MethodName) ({ cls := "AsleepPass", name := "bearer", desc := "(II)I" } : Jvm.MethodName)) :: (Jvm.Cond.code ({ cls := "AsleepPass", name := "bearer", desc := "(II)I" } : Jvm.MethodName) prog_1_method_8_code (3 : Nat) (Option.some Jvm.ClassFile.FieldType.int)) :: (Jvm.Cond.methodLinkNest "AsleepPass" (146 : Nat) ({ cls := "AsleepPass$Way", name := "hasBearer", desc := "(I)Z" } : Jvm.MethodName) "AsleepPass") :: (Jvm.Cond.privateMethod ({ cls := "AsleepPass$Way", name := "hasBearer", desc := "(I)Z" } : Jvm.MethodName)) :: (Jvm.Cond.instanceMethod ({ cls := "AsleepPass$Way", name := "hasBearer", desc := "(I)Z" } : Jvm.MethodName)) :: (Jvm.Cond.code ({ cls := "AsleepPass$Way", name := "hasBearer", desc := "(I)Z" } : Jvm.MethodName) prog_11_method_5_code (2 : Nat) (Option.some Jvm.ClassFile.FieldType.boolean)) :: (Jvm.Cond.methodLink "AsleepPassLaw" (47 : Nat) ({ cls := "AsleepPass", name := "start", desc := "(I)I" } : Jvm.MethodName)) :: (Jvm.Cond.instanceMethod ({ cls := "AsleepPass", name := "start", desc := "(I)I" } : Jvm.MethodName)) :: (Jvm.Cond.selects "AsleepPass" ({ cls := "AsleepPass", name := "start", desc := "(I)I" } : Jvm.MethodName) ({ cls := "AsleepPass", name := "start", desc := "(I)I" } : Jvm.MethodName)) :: (Jvm.Cond.code ({ cls := "AsleepPass", name := "start", desc := "(I)I" } : Jvm.MethodName) prog_1_method_9_code (3 : Nat) (Option.some Jvm.ClassFile.FieldType.int)) :: (Jvm.Cond.methodLink "AsleepPassLaw" (51 : Nat) ({ cls := "AsleepPass", name := "noise", desc := "(II)I" } : Jvm.MethodName)) :: tE_3_4
def tE_3_2 : List Cond := (Jvm.Cond.static ({ cls := "java/lang/System", name := "arraycopy", desc := "(Ljava/lang/Object;ILjava/lang/Object;II)V" } : Jvm.MethodName)) :: (Jvm.Cond.native ({ cls := "java/lang/System", name := "arraycopy", desc := "(Ljava/lang/Object;ILjava/lang/Object;II)V" } : Jvm.MethodName)) :: (Jvm.Cond.arrayClass Jvm.ClassFile.FieldType.byte) :: (Jvm.Cond.methodLink "AsleepPassLaw" (30 : Nat) ({ cls := "AsleepPass", name := "fault", desc := "()I" } : Jvm.MethodName)) :: (Jvm.Cond.instanceMethod ({ cls := "AsleepPass", name := "fault", desc := "()I" } : Jvm.MethodName)) :: (Jvm.Cond.selects "AsleepPass" ({ cls := "AsleepPass", name := "fault", desc := "()I" } : Jvm.MethodName) ({ cls := "AsleepPass", name := "fault", desc := "()I" } : Jvm.MethodName)) :: (Jvm.Cond.code ({ cls := "AsleepPass", name := "fault", desc := "()I" } : Jvm.MethodName) prog_1_method_5_code (1 : Nat) (Option.some Jvm.ClassFile.FieldType.int)) :: (Jvm.Cond.methodLink "AsleepPassLaw" (34 : Nat) ({ cls := "AsleepPass", name := "rule", desc := "(I)I" } : Jvm.MethodName)) :: (Jvm.Cond.instanceMethod ({ cls := "AsleepPass", name := "rule", desc := "(I)I" } : Jvm.MethodName)) :: (Jvm.Cond.selects "AsleepPass" ({ cls := "AsleepPass", name := "rule", desc := "(I)I" } : Jvm.MethodName) ({ cls := "AsleepPass", name := "rule", desc := "(I)I" } : Jvm.MethodName)) :: (Jvm.Cond.code ({ cls := "AsleepPass", name := "rule", desc := "(I)I" } : Jvm.MethodName) prog_1_method_6_code (2 : Nat) (Option.some Jvm.ClassFile.FieldType.int)) :: (Jvm.Cond.methodLink "AsleepPassLaw" (38 : Nat) ({ cls := "AsleepPass", name := "stretch", desc := "(II)I" } : Jvm.MethodName)) :: (Jvm.Cond.instanceMethod ({ cls := "AsleepPass", name := "stretch", desc := "(II)I" } : Jvm.MethodName)) :: (Jvm.Cond.selects "AsleepPass" ({ cls := "AsleepPass", name := "stretch", desc := "(II)I" } : Jvm.MethodName) ({ cls := "AsleepPass", name := "stretch", desc := "(II)I" } : Jvm.MethodName)) :: (Jvm.Cond.code ({ cls := "AsleepPass", name := "stretch", desc := "(II)I" } : Jvm.MethodName) prog_1_method_7_code (3 : Nat) (Option.some Jvm.ClassFile.FieldType.int)) :: (Jvm.Cond.methodLinkNest "AsleepPass" (132 : Nat) ({ cls := "AsleepPass$Way", name := "hasStretch", desc := "(I)Z" } : Jvm.MethodName) "AsleepPass") :: tE_3_3
def tE_3_1 : List Cond := (Jvm.Cond.methodLink "AsleepPass$Reader" (113 : Nat) ({ cls := "AsleepPass$Reader", name := "readCarry", desc := "()Z" } : Jvm.MethodName)) :: (Jvm.Cond.privateMethod ({ cls := "AsleepPass$Reader", name := "readCarry", desc := "()Z" } : Jvm.MethodName)) :: (Jvm.Cond.instanceMethod ({ cls := "AsleepPass$Reader", name := "readCarry", desc := "()Z" } : Jvm.MethodName)) :: (Jvm.Cond.code ({ cls := "AsleepPass$Reader", name := "readCarry", desc := "()Z" } : Jvm.MethodName) prog_7_method_11_code (3 : Nat) (Option.some Jvm.ClassFile.FieldType.boolean)) :: (Jvm.Cond.methodLink "AsleepPass$Reader" (150 : Nat) ({ cls := "java/lang/Math", name := "max", desc := "(II)I" } : Jvm.MethodName)) :: (Jvm.Cond.static ({ cls := "java/lang/Math", name := "max", desc := "(II)I" } : Jvm.MethodName)) :: (Jvm.Cond.code ({ cls := "java/lang/Math", name := "max", desc := "(II)I" } : Jvm.MethodName) prog_15_method_65_code (2 : Nat) (Option.some Jvm.ClassFile.FieldType.int)) :: (Jvm.Cond.methodLink "AsleepPass$Reader" (48 : Nat) ({ cls := "AsleepPass$Reader", name := "lookBehindAll", desc := "()V" } : Jvm.MethodName)) :: (Jvm.Cond.privateMethod ({ cls := "AsleepPass$Reader", name := "lookBehindAll", desc := "()V" } : Jvm.MethodName)) :: (Jvm.Cond.instanceMethod ({ cls := "AsleepPass$Reader", name := "lookBehindAll", desc := "()V" } : Jvm.MethodName)) :: (Jvm.Cond.code ({ cls := "AsleepPass$Reader", name := "lookBehindAll", desc := "()V" } : Jvm.MethodName) prog_7_method_16_code (1 : Nat) (Option.none : Option Jvm.ClassFile.FieldType)) :: (Jvm.Cond.methodLinkNest "AsleepPass" (112 : Nat) ({ cls := "AsleepPass$Way", name := "copyOf", desc := "(LAsleepPass$Way;)V" } : Jvm.MethodName) "AsleepPass") :: (Jvm.Cond.privateMethod ({ cls := "AsleepPass$Way", name := "copyOf", desc := "(LAsleepPass$Way;)V" } : Jvm.MethodName)) :: (Jvm.Cond.instanceMethod ({ cls := "AsleepPass$Way", name := "copyOf", desc := "(LAsleepPass$Way;)V" } : Jvm.MethodName)) :: (Jvm.Cond.code ({ cls := "AsleepPass$Way", name := "copyOf", desc := "(LAsleepPass$Way;)V" } : Jvm.MethodName) prog_11_method_3_code (2 : Nat) (Option.none : Option Jvm.ClassFile.FieldType)) :: (Jvm.Cond.methodLink "AsleepPass$Way" (40 : Nat) ({ cls := "java/lang/System", name := "arraycopy", desc := "(Ljava/lang/Object;ILjava/lang/Object;II)V" } : Jvm.MethodName)) :: tE_3_2
def tE_3_0 : List Cond := (Jvm.Cond.code ({ cls := "AsleepPass$Reader", name := "readBearer", desc := "()Z" } : Jvm.MethodName) prog_7_method_10_code (3 : Nat) (Option.some Jvm.ClassFile.FieldType.boolean)) :: (Jvm.Cond.methodLink "AsleepPass$Reader" (139 : Nat) ({ cls := "AsleepPass$Reader", name := "kind", desc := "()I" } : Jvm.MethodName)) :: (Jvm.Cond.privateMethod ({ cls := "AsleepPass$Reader", name := "kind", desc := "()I" } : Jvm.MethodName)) :: (Jvm.Cond.instanceMethod ({ cls := "AsleepPass$Reader", name := "kind", desc := "()I" } : Jvm.MethodName)) :: (Jvm.Cond.code ({ cls := "AsleepPass$Reader", name := "kind", desc := "()I" } : Jvm.MethodName) prog_7_method_12_code (1 : Nat) (Option.some Jvm.ClassFile.FieldType.int)) :: (Jvm.Cond.stringRef "AsleepPass$Reader" (156 : Nat) "plain") :: (Jvm.Cond.stringRef "AsleepPass$Reader" (158 : Nat) "hummer") :: (Jvm.Cond.stringRef "AsleepPass$Reader" (160 : Nat) "trembler") :: (Jvm.Cond.stringRef "AsleepPass$Reader" (162 : Nat) "tall") :: (Jvm.Cond.stringRef "AsleepPass$Reader" (164 : Nat) "twin") :: (Jvm.Cond.stringRef "AsleepPass$Reader" (166 : Nat) "paid") :: (Jvm.Cond.methodLinkNest "AsleepPass$Reader" (142 : Nat) ({ cls := "AsleepPass$Way", name := "addBearer", desc := "(III)V" } : Jvm.MethodName) "AsleepPass") :: (Jvm.Cond.privateMethod ({ cls := "AsleepPass$Way", name := "addBearer", desc := "(III)V" } : Jvm.MethodName)) :: (Jvm.Cond.instanceMethod ({ cls := "AsleepPass$Way", name := "addBearer", desc := "(III)V" } : Jvm.MethodName)) :: (Jvm.Cond.code ({ cls := "AsleepPass$Way", name := "addBearer", desc := "(III)V" } : Jvm.MethodName) prog_11_method_7_code (4 : Nat) (Option.none : Option Jvm.ClassFile.FieldType)) :: (Jvm.Cond.stringRef "AsleepPass$Reader" (111 : Nat) "carry") :: tE_3_1
set_option maxRecDepth 100000 in
theorem tE_3 : tables_1_3 = tE_3_0 := rfl
theorem sE_3_0 {w : Cond} (h : w ∈ tE_3_0) : w ∈ tables_1 := (List.mem_append_right _ (List.mem_append_right _ (List.mem_append_left _ (by rw [tE_3]; exact h))))
theorem sE_3_1 {w : Cond} (h : w ∈ tE_3_1) : w ∈ tables_1 := sE_3_0 (mc16 h)
theorem sE_3_2 {w : Cond} (h : w ∈ tE_3_2) : w ∈ tables_1 := sE_3_1 (mc16 h)
theorem sE_3_3 {w : Cond} (h : w ∈ tE_3_3) : w ∈ tables_1 := sE_3_2 (mc16 h)
theorem sE_3_4 {w : Cond} (h : w ∈ tE_3_4) : w ∈ tables_1 := sE_3_3 (mc16 h)
theorem sE_3_5 {w : Cond} (h : w ∈ tE_3_5) : w ∈ tables_1 := sE_3_4 (mc16 h)
theorem sE_3_6 {w : Cond} (h : w ∈ tE_3_6) : w ∈ tables_1 := sE_3_5 (mc16 h)
theorem sE_3_7 {w : Cond} (h : w ∈ tE_3_7) : w ∈ tables_1 := sE_3_6 (mc16 h)
theorem sE_3_8 {w : Cond} (h : w ∈ tE_3_8) : w ∈ tables_1 := sE_3_7 (mc16 h)
theorem sE_3_9 {w : Cond} (h : w ∈ tE_3_9) : w ∈ tables_1 := sE_3_8 (mc16 h)
theorem sE_3_10 {w : Cond} (h : w ∈ tE_3_10) : w ∈ tables_1 := sE_3_9 (mc16 h)
theorem sE_3_11 {w : Cond} (h : w ∈ tE_3_11) : w ∈ tables_1 := sE_3_10 (mc16 h)
theorem sE_3_12 {w : Cond} (h : w ∈ tE_3_12) : w ∈ tables_1 := sE_3_11 (mc16 h)
theorem sE_3_13 {w : Cond} (h : w ∈ tE_3_13) : w ∈ tables_1 := sE_3_12 (mc16 h)
theorem sE_3_14 {w : Cond} (h : w ∈ tE_3_14) : w ∈ tables_1 := sE_3_13 (mc16 h)
def tE_4_14 : List Cond := (Jvm.Cond.soleField "AsleepPassModel" "spot") :: (Jvm.Cond.lays "AsleepPassModel" "AsleepPassModel" "here" "I") :: (Jvm.Cond.soleField "AsleepPassModel" "here") :: (Jvm.Cond.lays "AsleepPassModel" "AsleepPassModel" "token" "I") :: (Jvm.Cond.soleField "AsleepPassModel" "token") :: (Jvm.Cond.lays "AsleepPassModel" "AsleepPassModel" "value" "I") :: (Jvm.Cond.soleField "AsleepPassModel" "value") :: (Jvm.Cond.laysFinal "AsleepPassModel" "AsleepPassModel" "cuts" "[I") :: (Jvm.Cond.soleField "AsleepPassModel" "cuts") :: (Jvm.Cond.laysFinal "AsleepPassModel" "AsleepPassModel" "letters" "[I") :: (Jvm.Cond.soleField "AsleepPassModel" "letters") :: (Jvm.Cond.laysFinal "AsleepPassModel" "AsleepPassModel" "odds" "[J") :: (Jvm.Cond.soleField "AsleepPassModel" "odds") :: (Jvm.Cond.laysFinal "AsleepPassModel" "AsleepPassModel" "then" "[J") :: (Jvm.Cond.soleField "AsleepPassModel" "then") :: (Jvm.Cond.laysFinal "AsleepPassModel" "AsleepPassModel" "bests" "[J") :: []
def tE_4_13 : List Cond := (Jvm.Cond.soleField "AsleepPassModel" "carried") :: (Jvm.Cond.lays "AsleepPassModel" "AsleepPassModel" "highStretch" "I") :: (Jvm.Cond.soleField "AsleepPassModel" "highStretch") :: (Jvm.Cond.lays "AsleepPassModel" "AsleepPassModel" "highBearer" "I") :: (Jvm.Cond.soleField "AsleepPassModel" "highBearer") :: (Jvm.Cond.laysFinal "AsleepPassModel" "AsleepPassModel" "tape" "[I") :: (Jvm.Cond.soleField "AsleepPassModel" "tape") :: (Jvm.Cond.lays "AsleepPassModel" "AsleepPassModel" "taped" "I") :: (Jvm.Cond.soleField "AsleepPassModel" "taped") :: (Jvm.Cond.lays "AsleepPassModel" "AsleepPassModel" "fault" "I") :: (Jvm.Cond.soleField "AsleepPassModel" "fault") :: (Jvm.Cond.lays "AsleepPassModel" "AsleepPassModel" "broken" "I") :: (Jvm.Cond.soleField "AsleepPassModel" "broken") :: (Jvm.Cond.lays "AsleepPassModel" "AsleepPassModel" "brokenAt" "I") :: (Jvm.Cond.soleField "AsleepPassModel" "brokenAt") :: (Jvm.Cond.lays "AsleepPassModel" "AsleepPassModel" "spot" "I") :: tE_4_14
def tE_4_12 : List Cond := (Jvm.Cond.fieldLink "AsleepPassModel" (259 : Nat) "AsleepPassModel" "torn" "I") :: (Jvm.Cond.laysFinal "AsleepPassModel" "AsleepPassModel" "state" "[I") :: (Jvm.Cond.soleField "AsleepPassModel" "state") :: (Jvm.Cond.lays "AsleepPassModel" "AsleepPassModel" "stretchMany" "I") :: (Jvm.Cond.soleField "AsleepPassModel" "stretchMany") :: (Jvm.Cond.lays "AsleepPassModel" "AsleepPassModel" "bearerMany" "I") :: (Jvm.Cond.soleField "AsleepPassModel" "bearerMany") :: (Jvm.Cond.laysFinal "AsleepPassModel" "AsleepPassModel" "readPage" "[I") :: (Jvm.Cond.soleField "AsleepPassModel" "readPage") :: (Jvm.Cond.lays "AsleepPassModel" "AsleepPassModel" "readStretches" "I") :: (Jvm.Cond.soleField "AsleepPassModel" "readStretches") :: (Jvm.Cond.lays "AsleepPassModel" "AsleepPassModel" "readBearers" "I") :: (Jvm.Cond.soleField "AsleepPassModel" "readBearers") :: (Jvm.Cond.lays "AsleepPassModel" "AsleepPassModel" "hasStart" "Z") :: (Jvm.Cond.soleField "AsleepPassModel" "hasStart") :: (Jvm.Cond.lays "AsleepPassModel" "AsleepPassModel" "carried" "I") :: tE_4_13
def tE_4_11 : List Cond := (Jvm.Cond.fieldLink "AsleepPassModel" (87 : Nat) "AsleepPassModel" "value" "I") :: (Jvm.Cond.fieldLink "AsleepPassModel" (19 : Nat) "AsleepPassModel" "cuts" "[I") :: (Jvm.Cond.fieldLink "AsleepPassModel" (22 : Nat) "AsleepPassModel" "letters" "[I") :: (Jvm.Cond.fieldLink "AsleepPassModel" (25 : Nat) "AsleepPassModel" "odds" "[J") :: (Jvm.Cond.fieldLink "AsleepPassModel" (29 : Nat) "AsleepPassModel" "then" "[J") :: (Jvm.Cond.fieldLink "AsleepPassModel" (32 : Nat) "AsleepPassModel" "bests" "[J") :: (Jvm.Cond.fieldLink "AsleepPassModel" (35 : Nat) "AsleepPassModel" "learnt" "[I") :: (Jvm.Cond.fieldLink "AsleepPassModel" (152 : Nat) "AsleepPassModel" "learntMany" "I") :: (Jvm.Cond.fieldLink "AsleepPassModel" (38 : Nat) "AsleepPassModel" "marks" "[I") :: (Jvm.Cond.fieldLink "AsleepPassModel" (155 : Nat) "AsleepPassModel" "markMany" "I") :: (Jvm.Cond.fieldLink "AsleepPassModel" (41 : Nat) "AsleepPassModel" "ahead" "[I") :: (Jvm.Cond.fieldLink "AsleepPassModel" (44 : Nat) "AsleepPassModel" "behind" "[I") :: (Jvm.Cond.fieldLink "AsleepPassModel" (47 : Nat) "AsleepPassModel" "isKept" "[Z") :: (Jvm.Cond.fieldLink "AsleepPassModel" (51 : Nat) "AsleepPassModel" "lanes" "[I") :: (Jvm.Cond.fieldLink "AsleepPassModel" (54 : Nat) "AsleepPassModel" "lengths" "[I") :: (Jvm.Cond.fieldLink "AsleepPassModel" (57 : Nat) "AsleepPassModel" "cells" "[I") :: tE_4_12
def tE_4_10 : List Cond := (Jvm.Cond.fieldLink "AsleepPassModel" (149 : Nat) "AsleepPassModel" "bearerMany" "I") :: (Jvm.Cond.fieldLink "AsleepPassModel" (13 : Nat) "AsleepPassModel" "readPage" "[I") :: (Jvm.Cond.fieldLink "AsleepPassModel" (116 : Nat) "AsleepPassModel" "readStretches" "I") :: (Jvm.Cond.fieldLink "AsleepPassModel" (105 : Nat) "AsleepPassModel" "readBearers" "I") :: (Jvm.Cond.fieldLink "AsleepPassModel" (119 : Nat) "AsleepPassModel" "hasStart" "Z") :: (Jvm.Cond.fieldLink "AsleepPassModel" (123 : Nat) "AsleepPassModel" "carried" "I") :: (Jvm.Cond.fieldLink "AsleepPassModel" (126 : Nat) "AsleepPassModel" "highStretch" "I") :: (Jvm.Cond.fieldLink "AsleepPassModel" (129 : Nat) "AsleepPassModel" "highBearer" "I") :: (Jvm.Cond.fieldLink "AsleepPassModel" (16 : Nat) "AsleepPassModel" "tape" "[I") :: (Jvm.Cond.fieldLink "AsleepPassModel" (60 : Nat) "AsleepPassModel" "taped" "I") :: (Jvm.Cond.fieldLink "AsleepPassModel" (143 : Nat) "AsleepPassModel" "fault" "I") :: (Jvm.Cond.fieldLink "AsleepPassModel" (68 : Nat) "AsleepPassModel" "broken" "I") :: (Jvm.Cond.fieldLink "AsleepPassModel" (74 : Nat) "AsleepPassModel" "brokenAt" "I") :: (Jvm.Cond.fieldLink "AsleepPassModel" (80 : Nat) "AsleepPassModel" "spot" "I") :: (Jvm.Cond.fieldLink "AsleepPassModel" (71 : Nat) "AsleepPassModel" "here" "I") :: (Jvm.Cond.fieldLink "AsleepPassModel" (77 : Nat) "AsleepPassModel" "token" "I") :: tE_4_11
def tE_4_9 : List Cond := (Jvm.Cond.methodLinkNest "AsleepPass" (311 : Nat) ({ cls := "AsleepPass$Sheets", name := "sizeOf", desc := "(I)I" } : Jvm.MethodName) "AsleepPass") :: (Jvm.Cond.privateMethod ({ cls := "AsleepPass$Sheets", name := "sizeOf", desc := "(I)I" } : Jvm.MethodName)) :: (Jvm.Cond.instanceMethod ({ cls := "AsleepPass$Sheets", name := "sizeOf", desc := "(I)I" } : Jvm.MethodName)) :: (Jvm.Cond.code ({ cls := "AsleepPass$Sheets", name := "sizeOf", desc := "(I)I" } : Jvm.MethodName) prog_8_method_5_code (2 : Nat) (Option.some Jvm.ClassFile.FieldType.int)) :: (Jvm.Cond.methodLinkNest "AsleepPass" (314 : Nat) ({ cls := "AsleepPass$Way", name := "handOvers", desc := "()I" } : Jvm.MethodName) "AsleepPass") :: (Jvm.Cond.privateMethod ({ cls := "AsleepPass$Way", name := "handOvers", desc := "()I" } : Jvm.MethodName)) :: (Jvm.Cond.instanceMethod ({ cls := "AsleepPass$Way", name := "handOvers", desc := "()I" } : Jvm.MethodName)) :: (Jvm.Cond.code ({ cls := "AsleepPass$Way", name := "handOvers", desc := "()I" } : Jvm.MethodName) prog_11_method_15_code (3 : Nat) (Option.some Jvm.ClassFile.FieldType.int)) :: (Jvm.Cond.classLink "AsleepPassLaw" (10 : Nat) "AsleepPassModel") :: (Jvm.Cond.instantiable "AsleepPassModel" (35 : Nat)) :: (Jvm.Cond.methodLink "AsleepPassLaw" (12 : Nat) ({ cls := "AsleepPassModel", name := "<init>", desc := "()V" } : Jvm.MethodName)) :: (Jvm.Cond.instanceMethod ({ cls := "AsleepPassModel", name := "<init>", desc := "()V" } : Jvm.MethodName)) :: (Jvm.Cond.code ({ cls := "AsleepPassModel", name := "<init>", desc := "()V" } : Jvm.MethodName) prog_13_method_1_code (1 : Nat) (Option.none : Option Jvm.ClassFile.FieldType)) :: (Jvm.Cond.methodLink "AsleepPassModel" (1 : Nat) ({ cls := "java/lang/Object", name := "<init>", desc := "()V" } : Jvm.MethodName)) :: (Jvm.Cond.fieldLink "AsleepPassModel" (7 : Nat) "AsleepPassModel" "state" "[I") :: (Jvm.Cond.fieldLink "AsleepPassModel" (146 : Nat) "AsleepPassModel" "stretchMany" "I") :: tE_4_10
def tE_4_8 : List Cond := (Jvm.Cond.instanceMethod ({ cls := "AsleepPass", name := "read", desc := "(IIII)I" } : Jvm.MethodName)) :: (Jvm.Cond.selects "AsleepPass" ({ cls := "AsleepPass", name := "read", desc := "(IIII)I" } : Jvm.MethodName) ({ cls := "AsleepPass", name := "read", desc := "(IIII)I" } : Jvm.MethodName)) :: (Jvm.Cond.code ({ cls := "AsleepPass", name := "read", desc := "(IIII)I" } : Jvm.MethodName) prog_1_method_40_code (6 : Nat) (Option.some Jvm.ClassFile.FieldType.int)) :: (Jvm.Cond.methodLinkNest "AsleepPass" (294 : Nat) ({ cls := "AsleepPass$Sheets", name := "takePairs", desc := "(IIII)V" } : Jvm.MethodName) "AsleepPass") :: (Jvm.Cond.privateMethod ({ cls := "AsleepPass$Sheets", name := "takePairs", desc := "(IIII)V" } : Jvm.MethodName)) :: (Jvm.Cond.instanceMethod ({ cls := "AsleepPass$Sheets", name := "takePairs", desc := "(IIII)V" } : Jvm.MethodName)) :: (Jvm.Cond.code ({ cls := "AsleepPass$Sheets", name := "takePairs", desc := "(IIII)V" } : Jvm.MethodName) prog_8_method_8_code (8 : Nat) (Option.none : Option Jvm.ClassFile.FieldType)) :: (Jvm.Cond.constantLong "AsleepPass$Sheets" (44 : Nat) (2 : Int64)) :: (Jvm.Cond.methodLink "AsleepPassLaw" (172 : Nat) ({ cls := "AsleepPass", name := "torn", desc := "()I" } : Jvm.MethodName)) :: (Jvm.Cond.instanceMethod ({ cls := "AsleepPass", name := "torn", desc := "()I" } : Jvm.MethodName)) :: (Jvm.Cond.selects "AsleepPass" ({ cls := "AsleepPass", name := "torn", desc := "()I" } : Jvm.MethodName) ({ cls := "AsleepPass", name := "torn", desc := "()I" } : Jvm.MethodName)) :: (Jvm.Cond.code ({ cls := "AsleepPass", name := "torn", desc := "()I" } : Jvm.MethodName) prog_1_method_41_code (1 : Nat) (Option.some Jvm.ClassFile.FieldType.int)) :: (Jvm.Cond.methodLink "AsleepPassLaw" (176 : Nat) ({ cls := "AsleepPass", name := "count", desc := "(I)I" } : Jvm.MethodName)) :: (Jvm.Cond.instanceMethod ({ cls := "AsleepPass", name := "count", desc := "(I)I" } : Jvm.MethodName)) :: (Jvm.Cond.selects "AsleepPass" ({ cls := "AsleepPass", name := "count", desc := "(I)I" } : Jvm.MethodName) ({ cls := "AsleepPass", name := "count", desc := "(I)I" } : Jvm.MethodName)) :: (Jvm.Cond.code ({ cls := "AsleepPass", name := "count", desc := "(I)I" } : Jvm.MethodName) prog_1_method_42_code (2 : Nat) (Option.some Jvm.ClassFile.FieldType.int)) :: tE_4_9
def tE_4_7 : List Cond := (Jvm.Cond.code ({ cls := "AsleepPass$Sheets", name := "renew", desc := "(III)V" } : Jvm.MethodName) prog_8_method_4_code (5 : Nat) (Option.none : Option Jvm.ClassFile.FieldType)) :: (Jvm.Cond.methodLink "AsleepPass$Sheets" (29 : Nat) ({ cls := "AsleepPass$Sheets", name := "isSheet", desc := "(I)Z" } : Jvm.MethodName)) :: (Jvm.Cond.methodLink "AsleepPassLaw" (164 : Nat) ({ cls := "AsleepPass", name := "lay", desc := "(III)I" } : Jvm.MethodName)) :: (Jvm.Cond.instanceMethod ({ cls := "AsleepPass", name := "lay", desc := "(III)I" } : Jvm.MethodName)) :: (Jvm.Cond.selects "AsleepPass" ({ cls := "AsleepPass", name := "lay", desc := "(III)I" } : Jvm.MethodName) ({ cls := "AsleepPass", name := "lay", desc := "(III)I" } : Jvm.MethodName)) :: (Jvm.Cond.code ({ cls := "AsleepPass", name := "lay", desc := "(III)I" } : Jvm.MethodName) prog_1_method_39_code (5 : Nat) (Option.some Jvm.ClassFile.FieldType.int)) :: (Jvm.Cond.methodLinkNest "AsleepPass" (287 : Nat) ({ cls := "AsleepPass$Sheets", name := "faultAt", desc := "(IJ)I" } : Jvm.MethodName) "AsleepPass") :: (Jvm.Cond.privateMethod ({ cls := "AsleepPass$Sheets", name := "faultAt", desc := "(IJ)I" } : Jvm.MethodName)) :: (Jvm.Cond.instanceMethod ({ cls := "AsleepPass$Sheets", name := "faultAt", desc := "(IJ)I" } : Jvm.MethodName)) :: (Jvm.Cond.code ({ cls := "AsleepPass$Sheets", name := "faultAt", desc := "(IJ)I" } : Jvm.MethodName) prog_8_method_6_code (4 : Nat) (Option.some Jvm.ClassFile.FieldType.int)) :: (Jvm.Cond.methodLinkNest "AsleepPass" (291 : Nat) ({ cls := "AsleepPass$Sheets", name := "fill", desc := "(III)V" } : Jvm.MethodName) "AsleepPass") :: (Jvm.Cond.privateMethod ({ cls := "AsleepPass$Sheets", name := "fill", desc := "(III)V" } : Jvm.MethodName)) :: (Jvm.Cond.instanceMethod ({ cls := "AsleepPass$Sheets", name := "fill", desc := "(III)V" } : Jvm.MethodName)) :: (Jvm.Cond.code ({ cls := "AsleepPass$Sheets", name := "fill", desc := "(III)V" } : Jvm.MethodName) prog_8_method_7_code (4 : Nat) (Option.none : Option Jvm.ClassFile.FieldType)) :: (Jvm.Cond.methodLink "AsleepPass$Sheets" (33 : Nat) ({ cls := "AsleepPass$Sheets", name := "faultAt", desc := "(IJ)I" } : Jvm.MethodName)) :: (Jvm.Cond.methodLink "AsleepPassLaw" (168 : Nat) ({ cls := "AsleepPass", name := "read", desc := "(IIII)I" } : Jvm.MethodName)) :: tE_4_8
def tE_4_6 : List Cond := (Jvm.Cond.instanceMethod ({ cls := "AsleepPass", name := "back", desc := "(I)I" } : Jvm.MethodName)) :: (Jvm.Cond.selects "AsleepPass" ({ cls := "AsleepPass", name := "back", desc := "(I)I" } : Jvm.MethodName) ({ cls := "AsleepPass", name := "back", desc := "(I)I" } : Jvm.MethodName)) :: (Jvm.Cond.code ({ cls := "AsleepPass", name := "back", desc := "(I)I" } : Jvm.MethodName) prog_1_method_37_code (2 : Nat) (Option.some Jvm.ClassFile.FieldType.int)) :: (Jvm.Cond.methodLink "AsleepPassLaw" (160 : Nat) ({ cls := "AsleepPass", name := "sheet", desc := "(III)I" } : Jvm.MethodName)) :: (Jvm.Cond.instanceMethod ({ cls := "AsleepPass", name := "sheet", desc := "(III)I" } : Jvm.MethodName)) :: (Jvm.Cond.selects "AsleepPass" ({ cls := "AsleepPass", name := "sheet", desc := "(III)I" } : Jvm.MethodName) ({ cls := "AsleepPass", name := "sheet", desc := "(III)I" } : Jvm.MethodName)) :: (Jvm.Cond.code ({ cls := "AsleepPass", name := "sheet", desc := "(III)I" } : Jvm.MethodName) prog_1_method_38_code (4 : Nat) (Option.some Jvm.ClassFile.FieldType.int)) :: (Jvm.Cond.methodLinkNest "AsleepPass" (277 : Nat) ({ cls := "AsleepPass$Sheets", name := "isSheet", desc := "(I)Z" } : Jvm.MethodName) "AsleepPass") :: (Jvm.Cond.static ({ cls := "AsleepPass$Sheets", name := "isSheet", desc := "(I)Z" } : Jvm.MethodName)) :: (Jvm.Cond.code ({ cls := "AsleepPass$Sheets", name := "isSheet", desc := "(I)Z" } : Jvm.MethodName) prog_8_method_2_code (1 : Nat) (Option.some Jvm.ClassFile.FieldType.boolean)) :: (Jvm.Cond.methodLinkNest "AsleepPass" (280 : Nat) ({ cls := "AsleepPass$Sheets", name := "isLane", desc := "(I)Z" } : Jvm.MethodName) "AsleepPass") :: (Jvm.Cond.static ({ cls := "AsleepPass$Sheets", name := "isLane", desc := "(I)Z" } : Jvm.MethodName)) :: (Jvm.Cond.code ({ cls := "AsleepPass$Sheets", name := "isLane", desc := "(I)Z" } : Jvm.MethodName) prog_8_method_3_code (1 : Nat) (Option.some Jvm.ClassFile.FieldType.boolean)) :: (Jvm.Cond.methodLinkNest "AsleepPass" (283 : Nat) ({ cls := "AsleepPass$Sheets", name := "renew", desc := "(III)V" } : Jvm.MethodName) "AsleepPass") :: (Jvm.Cond.privateMethod ({ cls := "AsleepPass$Sheets", name := "renew", desc := "(III)V" } : Jvm.MethodName)) :: (Jvm.Cond.instanceMethod ({ cls := "AsleepPass$Sheets", name := "renew", desc := "(III)V" } : Jvm.MethodName)) :: tE_4_7
def tE_4_5 : List Cond := (Jvm.Cond.methodLinkNest "AsleepPass" (267 : Nat) ({ cls := "AsleepPass$Trails", name := "falling", desc := "(LAsleepPass$Way;I)I" } : Jvm.MethodName) "AsleepPass") :: (Jvm.Cond.privateMethod ({ cls := "AsleepPass$Trails", name := "falling", desc := "(LAsleepPass$Way;I)I" } : Jvm.MethodName)) :: (Jvm.Cond.instanceMethod ({ cls := "AsleepPass$Trails", name := "falling", desc := "(LAsleepPass$Way;I)I" } : Jvm.MethodName)) :: (Jvm.Cond.code ({ cls := "AsleepPass$Trails", name := "falling", desc := "(LAsleepPass$Way;I)I" } : Jvm.MethodName) prog_10_method_7_code (5 : Nat) (Option.some Jvm.ClassFile.FieldType.int)) :: (Jvm.Cond.methodLinkNest "AsleepPass" (271 : Nat) ({ cls := "AsleepPass$Trails", name := "rising", desc := "(LAsleepPass$Way;I)I" } : Jvm.MethodName) "AsleepPass") :: (Jvm.Cond.privateMethod ({ cls := "AsleepPass$Trails", name := "rising", desc := "(LAsleepPass$Way;I)I" } : Jvm.MethodName)) :: (Jvm.Cond.instanceMethod ({ cls := "AsleepPass$Trails", name := "rising", desc := "(LAsleepPass$Way;I)I" } : Jvm.MethodName)) :: (Jvm.Cond.code ({ cls := "AsleepPass$Trails", name := "rising", desc := "(LAsleepPass$Way;I)I" } : Jvm.MethodName) prog_10_method_8_code (5 : Nat) (Option.some Jvm.ClassFile.FieldType.int)) :: (Jvm.Cond.methodLink "AsleepPassLaw" (152 : Nat) ({ cls := "AsleepPass", name := "keep", desc := "(I)I" } : Jvm.MethodName)) :: (Jvm.Cond.instanceMethod ({ cls := "AsleepPass", name := "keep", desc := "(I)I" } : Jvm.MethodName)) :: (Jvm.Cond.selects "AsleepPass" ({ cls := "AsleepPass", name := "keep", desc := "(I)I" } : Jvm.MethodName) ({ cls := "AsleepPass", name := "keep", desc := "(I)I" } : Jvm.MethodName)) :: (Jvm.Cond.code ({ cls := "AsleepPass", name := "keep", desc := "(I)I" } : Jvm.MethodName) prog_1_method_36_code (3 : Nat) (Option.some Jvm.ClassFile.FieldType.int)) :: (Jvm.Cond.methodLink "AsleepPass" (274 : Nat) ({ cls := "AsleepPass", name := "isImage", desc := "(I)Z" } : Jvm.MethodName)) :: (Jvm.Cond.static ({ cls := "AsleepPass", name := "isImage", desc := "(I)Z" } : Jvm.MethodName)) :: (Jvm.Cond.code ({ cls := "AsleepPass", name := "isImage", desc := "(I)Z" } : Jvm.MethodName) prog_1_method_46_code (1 : Nat) (Option.some Jvm.ClassFile.FieldType.boolean)) :: (Jvm.Cond.methodLink "AsleepPassLaw" (156 : Nat) ({ cls := "AsleepPass", name := "back", desc := "(I)I" } : Jvm.MethodName)) :: tE_4_6
def tE_4_4 : List Cond := (Jvm.Cond.methodLink "AsleepPass$Trails" (40 : Nat) ({ cls := "AsleepPass$Trails", name := "leadOnward", desc := "(II)V" } : Jvm.MethodName)) :: (Jvm.Cond.privateMethod ({ cls := "AsleepPass$Trails", name := "leadOnward", desc := "(II)V" } : Jvm.MethodName)) :: (Jvm.Cond.instanceMethod ({ cls := "AsleepPass$Trails", name := "leadOnward", desc := "(II)V" } : Jvm.MethodName)) :: (Jvm.Cond.code ({ cls := "AsleepPass$Trails", name := "leadOnward", desc := "(II)V" } : Jvm.MethodName) prog_10_method_5_code (6 : Nat) (Option.none : Option Jvm.ClassFile.FieldType)) :: (Jvm.Cond.methodLink "AsleepPassLaw" (144 : Nat) ({ cls := "AsleepPass", name := "eye", desc := "(I)I" } : Jvm.MethodName)) :: (Jvm.Cond.instanceMethod ({ cls := "AsleepPass", name := "eye", desc := "(I)I" } : Jvm.MethodName)) :: (Jvm.Cond.selects "AsleepPass" ({ cls := "AsleepPass", name := "eye", desc := "(I)I" } : Jvm.MethodName) ({ cls := "AsleepPass", name := "eye", desc := "(I)I" } : Jvm.MethodName)) :: (Jvm.Cond.code ({ cls := "AsleepPass", name := "eye", desc := "(I)I" } : Jvm.MethodName) prog_1_method_34_code (4 : Nat) (Option.some Jvm.ClassFile.FieldType.int)) :: (Jvm.Cond.methodLinkNest "AsleepPass" (264 : Nat) ({ cls := "AsleepPass$Trails", name := "canBeBehind", desc := "(II)Z" } : Jvm.MethodName) "AsleepPass") :: (Jvm.Cond.privateMethod ({ cls := "AsleepPass$Trails", name := "canBeBehind", desc := "(II)Z" } : Jvm.MethodName)) :: (Jvm.Cond.instanceMethod ({ cls := "AsleepPass$Trails", name := "canBeBehind", desc := "(II)Z" } : Jvm.MethodName)) :: (Jvm.Cond.code ({ cls := "AsleepPass$Trails", name := "canBeBehind", desc := "(II)Z" } : Jvm.MethodName) prog_10_method_6_code (3 : Nat) (Option.some Jvm.ClassFile.FieldType.boolean)) :: (Jvm.Cond.methodLink "AsleepPassLaw" (148 : Nat) ({ cls := "AsleepPass", name := "sure", desc := "(I)I" } : Jvm.MethodName)) :: (Jvm.Cond.instanceMethod ({ cls := "AsleepPass", name := "sure", desc := "(I)I" } : Jvm.MethodName)) :: (Jvm.Cond.selects "AsleepPass" ({ cls := "AsleepPass", name := "sure", desc := "(I)I" } : Jvm.MethodName) ({ cls := "AsleepPass", name := "sure", desc := "(I)I" } : Jvm.MethodName)) :: (Jvm.Cond.code ({ cls := "AsleepPass", name := "sure", desc := "(I)I" } : Jvm.MethodName) prog_1_method_35_code (5 : Nat) (Option.some Jvm.ClassFile.FieldType.int)) :: tE_4_5
def tE_4_3 : List Cond := (Jvm.Cond.privateMethod ({ cls := "AsleepPass$Trails", name := "explore", desc := "(LAsleepPass$Way;LAsleepPass$Marked;)V" } : Jvm.MethodName)) :: (Jvm.Cond.instanceMethod ({ cls := "AsleepPass$Trails", name := "explore", desc := "(LAsleepPass$Way;LAsleepPass$Marked;)V" } : Jvm.MethodName)) :: (Jvm.Cond.code ({ cls := "AsleepPass$Trails", name := "explore", desc := "(LAsleepPass$Way;LAsleepPass$Marked;)V" } : Jvm.MethodName) prog_10_method_2_code (4 : Nat) (Option.none : Option Jvm.ClassFile.FieldType)) :: (Jvm.Cond.methodLinkNest "AsleepPass$Trails" (28 : Nat) ({ cls := "AsleepPass$Way", name := "harmInOrder", desc := "(I)I" } : Jvm.MethodName) "AsleepPass") :: (Jvm.Cond.methodLink "AsleepPass$Trails" (32 : Nat) ({ cls := "AsleepPass$Trails", name := "leadInto", desc := "(II)V" } : Jvm.MethodName)) :: (Jvm.Cond.privateMethod ({ cls := "AsleepPass$Trails", name := "leadInto", desc := "(II)V" } : Jvm.MethodName)) :: (Jvm.Cond.instanceMethod ({ cls := "AsleepPass$Trails", name := "leadInto", desc := "(II)V" } : Jvm.MethodName)) :: (Jvm.Cond.code ({ cls := "AsleepPass$Trails", name := "leadInto", desc := "(II)V" } : Jvm.MethodName) prog_10_method_4_code (4 : Nat) (Option.none : Option Jvm.ClassFile.FieldType)) :: (Jvm.Cond.methodLink "AsleepPass$Trails" (52 : Nat) ({ cls := "java/lang/Math", name := "min", desc := "(II)I" } : Jvm.MethodName)) :: (Jvm.Cond.methodLink "AsleepPass$Trails" (36 : Nat) ({ cls := "AsleepPass$Trails", name := "dropUnmarked", desc := "([ILAsleepPass$Marked;I)V" } : Jvm.MethodName)) :: (Jvm.Cond.static ({ cls := "AsleepPass$Trails", name := "dropUnmarked", desc := "([ILAsleepPass$Marked;I)V" } : Jvm.MethodName)) :: (Jvm.Cond.code ({ cls := "AsleepPass$Trails", name := "dropUnmarked", desc := "([ILAsleepPass$Marked;I)V" } : Jvm.MethodName) prog_10_method_3_code (4 : Nat) (Option.none : Option Jvm.ClassFile.FieldType)) :: (Jvm.Cond.methodLinkNest "AsleepPass$Trails" (46 : Nat) ({ cls := "AsleepPass$Marked", name := "allows", desc := "(II)Z" } : Jvm.MethodName) "AsleepPass") :: (Jvm.Cond.privateMethod ({ cls := "AsleepPass$Marked", name := "allows", desc := "(II)Z" } : Jvm.MethodName)) :: (Jvm.Cond.instanceMethod ({ cls := "AsleepPass$Marked", name := "allows", desc := "(II)Z" } : Jvm.MethodName)) :: (Jvm.Cond.code ({ cls := "AsleepPass$Marked", name := "allows", desc := "(II)Z" } : Jvm.MethodName) prog_5_method_3_code (4 : Nat) (Option.some Jvm.ClassFile.FieldType.boolean)) :: tE_4_4
def tE_4_2 : List Cond := (Jvm.Cond.instanceMethod ({ cls := "AsleepPass", name := "mark", desc := "(II)I" } : Jvm.MethodName)) :: (Jvm.Cond.selects "AsleepPass" ({ cls := "AsleepPass", name := "mark", desc := "(II)I" } : Jvm.MethodName) ({ cls := "AsleepPass", name := "mark", desc := "(II)I" } : Jvm.MethodName)) :: (Jvm.Cond.code ({ cls := "AsleepPass", name := "mark", desc := "(II)I" } : Jvm.MethodName) prog_1_method_31_code (3 : Nat) (Option.some Jvm.ClassFile.FieldType.int)) :: (Jvm.Cond.methodLinkNest "AsleepPass" (254 : Nat) ({ cls := "AsleepPass$Marked", name := "add", desc := "(II)Z" } : Jvm.MethodName) "AsleepPass") :: (Jvm.Cond.privateMethod ({ cls := "AsleepPass$Marked", name := "add", desc := "(II)Z" } : Jvm.MethodName)) :: (Jvm.Cond.instanceMethod ({ cls := "AsleepPass$Marked", name := "add", desc := "(II)Z" } : Jvm.MethodName)) :: (Jvm.Cond.code ({ cls := "AsleepPass$Marked", name := "add", desc := "(II)Z" } : Jvm.MethodName) prog_5_method_2_code (3 : Nat) (Option.some Jvm.ClassFile.FieldType.boolean)) :: (Jvm.Cond.methodLink "AsleepPassLaw" (136 : Nat) ({ cls := "AsleepPass", name := "wipe", desc := "(I)I" } : Jvm.MethodName)) :: (Jvm.Cond.instanceMethod ({ cls := "AsleepPass", name := "wipe", desc := "(I)I" } : Jvm.MethodName)) :: (Jvm.Cond.selects "AsleepPass" ({ cls := "AsleepPass", name := "wipe", desc := "(I)I" } : Jvm.MethodName) ({ cls := "AsleepPass", name := "wipe", desc := "(I)I" } : Jvm.MethodName)) :: (Jvm.Cond.code ({ cls := "AsleepPass", name := "wipe", desc := "(I)I" } : Jvm.MethodName) prog_1_method_32_code (3 : Nat) (Option.some Jvm.ClassFile.FieldType.int)) :: (Jvm.Cond.methodLink "AsleepPassLaw" (140 : Nat) ({ cls := "AsleepPass", name := "paths", desc := "()I" } : Jvm.MethodName)) :: (Jvm.Cond.instanceMethod ({ cls := "AsleepPass", name := "paths", desc := "()I" } : Jvm.MethodName)) :: (Jvm.Cond.selects "AsleepPass" ({ cls := "AsleepPass", name := "paths", desc := "()I" } : Jvm.MethodName) ({ cls := "AsleepPass", name := "paths", desc := "()I" } : Jvm.MethodName)) :: (Jvm.Cond.code ({ cls := "AsleepPass", name := "paths", desc := "()I" } : Jvm.MethodName) prog_1_method_33_code (1 : Nat) (Option.some Jvm.ClassFile.FieldType.int)) :: (Jvm.Cond.methodLinkNest "AsleepPass" (257 : Nat) ({ cls := "AsleepPass$Trails", name := "explore", desc := "(LAsleepPass$Way;LAsleepPass$Marked;)V" } : Jvm.MethodName) "AsleepPass") :: tE_4_3
def tE_4_1 : List Cond := (Jvm.Cond.instanceMethod ({ cls := "AsleepPass$Learnt", name := "add", desc := "(IIII)Z" } : Jvm.MethodName)) :: (Jvm.Cond.code ({ cls := "AsleepPass$Learnt", name := "add", desc := "(IIII)Z" } : Jvm.MethodName) prog_4_method_2_code (5 : Nat) (Option.some Jvm.ClassFile.FieldType.boolean)) :: (Jvm.Cond.methodLink "AsleepPassLaw" (124 : Nat) ({ cls := "AsleepPass", name := "forget", desc := "(I)I" } : Jvm.MethodName)) :: (Jvm.Cond.instanceMethod ({ cls := "AsleepPass", name := "forget", desc := "(I)I" } : Jvm.MethodName)) :: (Jvm.Cond.selects "AsleepPass" ({ cls := "AsleepPass", name := "forget", desc := "(I)I" } : Jvm.MethodName) ({ cls := "AsleepPass", name := "forget", desc := "(I)I" } : Jvm.MethodName)) :: (Jvm.Cond.code ({ cls := "AsleepPass", name := "forget", desc := "(I)I" } : Jvm.MethodName) prog_1_method_29_code (3 : Nat) (Option.some Jvm.ClassFile.FieldType.int)) :: (Jvm.Cond.methodLink "AsleepPassLaw" (128 : Nat) ({ cls := "AsleepPass", name := "steps", desc := "(II)I" } : Jvm.MethodName)) :: (Jvm.Cond.instanceMethod ({ cls := "AsleepPass", name := "steps", desc := "(II)I" } : Jvm.MethodName)) :: (Jvm.Cond.selects "AsleepPass" ({ cls := "AsleepPass", name := "steps", desc := "(II)I" } : Jvm.MethodName) ({ cls := "AsleepPass", name := "steps", desc := "(II)I" } : Jvm.MethodName)) :: (Jvm.Cond.code ({ cls := "AsleepPass", name := "steps", desc := "(II)I" } : Jvm.MethodName) prog_1_method_30_code (7 : Nat) (Option.some Jvm.ClassFile.FieldType.int)) :: (Jvm.Cond.methodLinkNest "AsleepPass" (250 : Nat) ({ cls := "AsleepPass$Learnt", name := "isSo", desc := "(LAsleepPass$Way;)Z" } : Jvm.MethodName) "AsleepPass") :: (Jvm.Cond.privateMethod ({ cls := "AsleepPass$Learnt", name := "isSo", desc := "(LAsleepPass$Way;)Z" } : Jvm.MethodName)) :: (Jvm.Cond.instanceMethod ({ cls := "AsleepPass$Learnt", name := "isSo", desc := "(LAsleepPass$Way;)Z" } : Jvm.MethodName)) :: (Jvm.Cond.code ({ cls := "AsleepPass$Learnt", name := "isSo", desc := "(LAsleepPass$Way;)Z" } : Jvm.MethodName) prog_4_method_3_code (3 : Nat) (Option.some Jvm.ClassFile.FieldType.boolean)) :: (Jvm.Cond.methodLinkNest "AsleepPass$Learnt" (26 : Nat) ({ cls := "AsleepPass$Way", name := "harmBy", desc := "(III)I" } : Jvm.MethodName) "AsleepPass") :: (Jvm.Cond.methodLink "AsleepPassLaw" (132 : Nat) ({ cls := "AsleepPass", name := "mark", desc := "(II)I" } : Jvm.MethodName)) :: tE_4_2
def tE_4_0 : List Cond := (Jvm.Cond.instanceMethod ({ cls := "AsleepPass", name := "carry", desc := "(II)I" } : Jvm.MethodName)) :: (Jvm.Cond.selects "AsleepPass" ({ cls := "AsleepPass", name := "carry", desc := "(II)I" } : Jvm.MethodName) ({ cls := "AsleepPass", name := "carry", desc := "(II)I" } : Jvm.MethodName)) :: (Jvm.Cond.code ({ cls := "AsleepPass", name := "carry", desc := "(II)I" } : Jvm.MethodName) prog_1_method_27_code (3 : Nat) (Option.some Jvm.ClassFile.FieldType.int)) :: (Jvm.Cond.methodLinkNest "AsleepPass" (234 : Nat) ({ cls := "AsleepPass$Crossing", name := "cross", desc := "(LAsleepPass$Way;I)V" } : Jvm.MethodName) "AsleepPass") :: (Jvm.Cond.privateMethod ({ cls := "AsleepPass$Crossing", name := "cross", desc := "(LAsleepPass$Way;I)V" } : Jvm.MethodName)) :: (Jvm.Cond.instanceMethod ({ cls := "AsleepPass$Crossing", name := "cross", desc := "(LAsleepPass$Way;I)V" } : Jvm.MethodName)) :: (Jvm.Cond.code ({ cls := "AsleepPass$Crossing", name := "cross", desc := "(LAsleepPass$Way;I)V" } : Jvm.MethodName) prog_3_method_2_code (5 : Nat) (Option.none : Option Jvm.ClassFile.FieldType)) :: (Jvm.Cond.constant "AsleepPass$Crossing" (29 : Nat) (1103515245 : Int32)) :: (Jvm.Cond.methodLinkNest "AsleepPass$Crossing" (30 : Nat) ({ cls := "AsleepPass$Way", name := "harmInOrder", desc := "(I)I" } : Jvm.MethodName) "AsleepPass") :: (Jvm.Cond.methodLink "AsleepPass$Crossing" (34 : Nat) ({ cls := "java/lang/Math", name := "min", desc := "(II)I" } : Jvm.MethodName)) :: (Jvm.Cond.methodLink "AsleepPassLaw" (119 : Nat) ({ cls := "AsleepPass", name := "learn", desc := "(IIII)I" } : Jvm.MethodName)) :: (Jvm.Cond.instanceMethod ({ cls := "AsleepPass", name := "learn", desc := "(IIII)I" } : Jvm.MethodName)) :: (Jvm.Cond.selects "AsleepPass" ({ cls := "AsleepPass", name := "learn", desc := "(IIII)I" } : Jvm.MethodName) ({ cls := "AsleepPass", name := "learn", desc := "(IIII)I" } : Jvm.MethodName)) :: (Jvm.Cond.code ({ cls := "AsleepPass", name := "learn", desc := "(IIII)I" } : Jvm.MethodName) prog_1_method_28_code (5 : Nat) (Option.some Jvm.ClassFile.FieldType.int)) :: (Jvm.Cond.methodLinkNest "AsleepPass" (246 : Nat) ({ cls := "AsleepPass$Learnt", name := "add", desc := "(IIII)Z" } : Jvm.MethodName) "AsleepPass") :: (Jvm.Cond.privateMethod ({ cls := "AsleepPass$Learnt", name := "add", desc := "(IIII)Z" } : Jvm.MethodName)) :: tE_4_1
set_option maxRecDepth 100000 in
theorem tE_4 : tables_1_4 = tE_4_0 := rfl
theorem sE_4_0 {w : Cond} (h : w ∈ tE_4_0) : w ∈ tables_1 := (List.mem_append_right _ (List.mem_append_right _ (List.mem_append_right _ (List.mem_append_left _ (by rw [tE_4]; exact h)))))
theorem sE_4_1 {w : Cond} (h : w ∈ tE_4_1) : w ∈ tables_1 := sE_4_0 (mc16 h)
theorem sE_4_2 {w : Cond} (h : w ∈ tE_4_2) : w ∈ tables_1 := sE_4_1 (mc16 h)
theorem sE_4_3 {w : Cond} (h : w ∈ tE_4_3) : w ∈ tables_1 := sE_4_2 (mc16 h)
theorem sE_4_4 {w : Cond} (h : w ∈ tE_4_4) : w ∈ tables_1 := sE_4_3 (mc16 h)
theorem sE_4_5 {w : Cond} (h : w ∈ tE_4_5) : w ∈ tables_1 := sE_4_4 (mc16 h)
theorem sE_4_6 {w : Cond} (h : w ∈ tE_4_6) : w ∈ tables_1 := sE_4_5 (mc16 h)
theorem sE_4_7 {w : Cond} (h : w ∈ tE_4_7) : w ∈ tables_1 := sE_4_6 (mc16 h)
theorem sE_4_8 {w : Cond} (h : w ∈ tE_4_8) : w ∈ tables_1 := sE_4_7 (mc16 h)
theorem sE_4_9 {w : Cond} (h : w ∈ tE_4_9) : w ∈ tables_1 := sE_4_8 (mc16 h)
theorem sE_4_10 {w : Cond} (h : w ∈ tE_4_10) : w ∈ tables_1 := sE_4_9 (mc16 h)
theorem sE_4_11 {w : Cond} (h : w ∈ tE_4_11) : w ∈ tables_1 := sE_4_10 (mc16 h)
theorem sE_4_12 {w : Cond} (h : w ∈ tE_4_12) : w ∈ tables_1 := sE_4_11 (mc16 h)
theorem sE_4_13 {w : Cond} (h : w ∈ tE_4_13) : w ∈ tables_1 := sE_4_12 (mc16 h)
theorem sE_4_14 {w : Cond} (h : w ∈ tE_4_14) : w ∈ tables_1 := sE_4_13 (mc16 h)
def tE_5_14 : List Cond := (Jvm.Cond.instanceMethod ({ cls := "AsleepPassModel", name := "swap", desc := "(I)J" } : Jvm.MethodName)) :: (Jvm.Cond.selects "AsleepPassModel" ({ cls := "AsleepPassModel", name := "swap", desc := "(I)J" } : Jvm.MethodName) ({ cls := "AsleepPassModel", name := "swap", desc := "(I)J" } : Jvm.MethodName)) :: (Jvm.Cond.code ({ cls := "AsleepPassModel", name := "swap", desc := "(I)J" } : Jvm.MethodName) prog_13_method_52_code (7 : Nat) (Option.some Jvm.ClassFile.FieldType.long)) :: (Jvm.Cond.methodLink "AsleepPassModel" (237 : Nat) ({ cls := "AsleepPassModel", name := "changes", desc := "(II)V" } : Jvm.MethodName)) :: (Jvm.Cond.privateMethod ({ cls := "AsleepPassModel", name := "changes", desc := "(II)V" } : Jvm.MethodName)) :: (Jvm.Cond.instanceMethod ({ cls := "AsleepPassModel", name := "changes", desc := "(II)V" } : Jvm.MethodName)) :: (Jvm.Cond.code ({ cls := "AsleepPassModel", name := "changes", desc := "(II)V" } : Jvm.MethodName) prog_13_method_51_code (4 : Nat) (Option.none : Option Jvm.ClassFile.FieldType)) :: (Jvm.Cond.methodLink "AsleepPassLaw" (118 : Nat) ({ cls := "AsleepPassModel", name := "carry", desc := "(II)I" } : Jvm.MethodName)) :: (Jvm.Cond.instanceMethod ({ cls := "AsleepPassModel", name := "carry", desc := "(II)I" } : Jvm.MethodName)) :: (Jvm.Cond.selects "AsleepPassModel" ({ cls := "AsleepPassModel", name := "carry", desc := "(II)I" } : Jvm.MethodName) ({ cls := "AsleepPassModel", name := "carry", desc := "(II)I" } : Jvm.MethodName)) :: (Jvm.Cond.code ({ cls := "AsleepPassModel", name := "carry", desc := "(II)I" } : Jvm.MethodName) prog_13_method_53_code (9 : Nat) (Option.some Jvm.ClassFile.FieldType.int)) :: (Jvm.Cond.constant "AsleepPassModel" (241 : Nat) (1103515245 : Int32)) :: (Jvm.Cond.methodLink "AsleepPassLaw" (123 : Nat) ({ cls := "AsleepPassModel", name := "learn", desc := "(IIII)I" } : Jvm.MethodName)) :: (Jvm.Cond.instanceMethod ({ cls := "AsleepPassModel", name := "learn", desc := "(IIII)I" } : Jvm.MethodName)) :: (Jvm.Cond.selects "AsleepPassModel" ({ cls := "AsleepPassModel", name := "learn", desc := "(IIII)I" } : Jvm.MethodName) ({ cls := "AsleepPassModel", name := "learn", desc := "(IIII)I" } : Jvm.MethodName)) :: (Jvm.Cond.code ({ cls := "AsleepPassModel", name := "learn", desc := "(IIII)I" } : Jvm.MethodName) prog_13_method_54_code (6 : Nat) (Option.some Jvm.ClassFile.FieldType.int)) :: []
def tE_5_13 : List Cond := (Jvm.Cond.selects "AsleepPassModel" ({ cls := "AsleepPassModel", name := "without", desc := "(II)J" } : Jvm.MethodName) ({ cls := "AsleepPassModel", name := "without", desc := "(II)J" } : Jvm.MethodName)) :: (Jvm.Cond.code ({ cls := "AsleepPassModel", name := "without", desc := "(II)J" } : Jvm.MethodName) prog_13_method_47_code (3 : Nat) (Option.some Jvm.ClassFile.FieldType.long)) :: (Jvm.Cond.constantLong "AsleepPassModel" (230 : Nat) (-2 : Int64)) :: (Jvm.Cond.methodLink "AsleepPassLaw" (106 : Nat) ({ cls := "AsleepPassModel", name := "quiet", desc := "(II)J" } : Jvm.MethodName)) :: (Jvm.Cond.instanceMethod ({ cls := "AsleepPassModel", name := "quiet", desc := "(II)J" } : Jvm.MethodName)) :: (Jvm.Cond.selects "AsleepPassModel" ({ cls := "AsleepPassModel", name := "quiet", desc := "(II)J" } : Jvm.MethodName) ({ cls := "AsleepPassModel", name := "quiet", desc := "(II)J" } : Jvm.MethodName)) :: (Jvm.Cond.code ({ cls := "AsleepPassModel", name := "quiet", desc := "(II)J" } : Jvm.MethodName) prog_13_method_49_code (7 : Nat) (Option.some Jvm.ClassFile.FieldType.long)) :: (Jvm.Cond.constantLong "AsleepPassModel" (232 : Nat) (4 : Int64)) :: (Jvm.Cond.methodLink "AsleepPassModel" (234 : Nat) ({ cls := "AsleepPassModel", name := "bitsOf", desc := "(I)I" } : Jvm.MethodName)) :: (Jvm.Cond.static ({ cls := "AsleepPassModel", name := "bitsOf", desc := "(I)I" } : Jvm.MethodName)) :: (Jvm.Cond.code ({ cls := "AsleepPassModel", name := "bitsOf", desc := "(I)I" } : Jvm.MethodName) prog_13_method_48_code (3 : Nat) (Option.some Jvm.ClassFile.FieldType.int)) :: (Jvm.Cond.methodLink "AsleepPassLaw" (110 : Nat) ({ cls := "AsleepPassModel", name := "drop", desc := "(I)J" } : Jvm.MethodName)) :: (Jvm.Cond.instanceMethod ({ cls := "AsleepPassModel", name := "drop", desc := "(I)J" } : Jvm.MethodName)) :: (Jvm.Cond.selects "AsleepPassModel" ({ cls := "AsleepPassModel", name := "drop", desc := "(I)J" } : Jvm.MethodName) ({ cls := "AsleepPassModel", name := "drop", desc := "(I)J" } : Jvm.MethodName)) :: (Jvm.Cond.code ({ cls := "AsleepPassModel", name := "drop", desc := "(I)J" } : Jvm.MethodName) prog_13_method_50_code (6 : Nat) (Option.some Jvm.ClassFile.FieldType.long)) :: (Jvm.Cond.methodLink "AsleepPassLaw" (114 : Nat) ({ cls := "AsleepPassModel", name := "swap", desc := "(I)J" } : Jvm.MethodName)) :: tE_5_14
def tE_5_12 : List Cond := (Jvm.Cond.instanceMethod ({ cls := "AsleepPassModel", name := "layBest", desc := "(I)V" } : Jvm.MethodName)) :: (Jvm.Cond.code ({ cls := "AsleepPassModel", name := "layBest", desc := "(I)V" } : Jvm.MethodName) prog_13_method_44_code (8 : Nat) (Option.none : Option Jvm.ClassFile.FieldType)) :: (Jvm.Cond.constantLong "AsleepPassModel" (221 : Nat) (4000000000000000000 : Int64)) :: (Jvm.Cond.methodLink "AsleepPassModel" (223 : Nat) ({ cls := "AsleepPassModel", name := "byOne", desc := "(IIII)J" } : Jvm.MethodName)) :: (Jvm.Cond.privateMethod ({ cls := "AsleepPassModel", name := "byOne", desc := "(IIII)J" } : Jvm.MethodName)) :: (Jvm.Cond.instanceMethod ({ cls := "AsleepPassModel", name := "byOne", desc := "(IIII)J" } : Jvm.MethodName)) :: (Jvm.Cond.code ({ cls := "AsleepPassModel", name := "byOne", desc := "(IIII)J" } : Jvm.MethodName) prog_13_method_43_code (6 : Nat) (Option.some Jvm.ClassFile.FieldType.long)) :: (Jvm.Cond.methodLink "AsleepPassModel" (218 : Nat) ({ cls := "AsleepPassModel", name := "bestAt", desc := "(III)I" } : Jvm.MethodName)) :: (Jvm.Cond.static ({ cls := "AsleepPassModel", name := "bestAt", desc := "(III)I" } : Jvm.MethodName)) :: (Jvm.Cond.code ({ cls := "AsleepPassModel", name := "bestAt", desc := "(III)I" } : Jvm.MethodName) prog_13_method_42_code (3 : Nat) (Option.some Jvm.ClassFile.FieldType.int)) :: (Jvm.Cond.methodLink "AsleepPassLaw" (98 : Nat) ({ cls := "AsleepPassModel", name := "next", desc := "(III)I" } : Jvm.MethodName)) :: (Jvm.Cond.instanceMethod ({ cls := "AsleepPassModel", name := "next", desc := "(III)I" } : Jvm.MethodName)) :: (Jvm.Cond.selects "AsleepPassModel" ({ cls := "AsleepPassModel", name := "next", desc := "(III)I" } : Jvm.MethodName) ({ cls := "AsleepPassModel", name := "next", desc := "(III)I" } : Jvm.MethodName)) :: (Jvm.Cond.code ({ cls := "AsleepPassModel", name := "next", desc := "(III)I" } : Jvm.MethodName) prog_13_method_46_code (5 : Nat) (Option.some Jvm.ClassFile.FieldType.int)) :: (Jvm.Cond.methodLink "AsleepPassLaw" (102 : Nat) ({ cls := "AsleepPassModel", name := "without", desc := "(II)J" } : Jvm.MethodName)) :: (Jvm.Cond.instanceMethod ({ cls := "AsleepPassModel", name := "without", desc := "(II)J" } : Jvm.MethodName)) :: tE_5_13
def tE_5_11 : List Cond := (Jvm.Cond.code ({ cls := "AsleepPassModel", name := "lowest", desc := "(JJI)J" } : Jvm.MethodName) prog_13_method_38_code (11 : Nat) (Option.some Jvm.ClassFile.FieldType.long)) :: (Jvm.Cond.methodLink "AsleepPassLaw" (85 : Nat) ({ cls := "AsleepPassModel", name := "awake", desc := "(II)J" } : Jvm.MethodName)) :: (Jvm.Cond.instanceMethod ({ cls := "AsleepPassModel", name := "awake", desc := "(II)J" } : Jvm.MethodName)) :: (Jvm.Cond.selects "AsleepPassModel" ({ cls := "AsleepPassModel", name := "awake", desc := "(II)J" } : Jvm.MethodName) ({ cls := "AsleepPassModel", name := "awake", desc := "(II)J" } : Jvm.MethodName)) :: (Jvm.Cond.code ({ cls := "AsleepPassModel", name := "awake", desc := "(II)J" } : Jvm.MethodName) prog_13_method_40_code (3 : Nat) (Option.some Jvm.ClassFile.FieldType.long)) :: (Jvm.Cond.methodLink "AsleepPassModel" (214 : Nat) ({ cls := "AsleepPassModel", name := "depth", desc := "(III)J" } : Jvm.MethodName)) :: (Jvm.Cond.instanceMethod ({ cls := "AsleepPassModel", name := "depth", desc := "(III)J" } : Jvm.MethodName)) :: (Jvm.Cond.selects "AsleepPassModel" ({ cls := "AsleepPassModel", name := "depth", desc := "(III)J" } : Jvm.MethodName) ({ cls := "AsleepPassModel", name := "depth", desc := "(III)J" } : Jvm.MethodName)) :: (Jvm.Cond.code ({ cls := "AsleepPassModel", name := "depth", desc := "(III)J" } : Jvm.MethodName) prog_13_method_41_code (4 : Nat) (Option.some Jvm.ClassFile.FieldType.long)) :: (Jvm.Cond.methodLink "AsleepPassLaw" (90 : Nat) ({ cls := "AsleepPassModel", name := "depth", desc := "(III)J" } : Jvm.MethodName)) :: (Jvm.Cond.methodLink "AsleepPassLaw" (94 : Nat) ({ cls := "AsleepPassModel", name := "best", desc := "(I)J" } : Jvm.MethodName)) :: (Jvm.Cond.instanceMethod ({ cls := "AsleepPassModel", name := "best", desc := "(I)J" } : Jvm.MethodName)) :: (Jvm.Cond.selects "AsleepPassModel" ({ cls := "AsleepPassModel", name := "best", desc := "(I)J" } : Jvm.MethodName) ({ cls := "AsleepPassModel", name := "best", desc := "(I)J" } : Jvm.MethodName)) :: (Jvm.Cond.code ({ cls := "AsleepPassModel", name := "best", desc := "(I)J" } : Jvm.MethodName) prog_13_method_45_code (2 : Nat) (Option.some Jvm.ClassFile.FieldType.long)) :: (Jvm.Cond.methodLink "AsleepPassModel" (227 : Nat) ({ cls := "AsleepPassModel", name := "layBest", desc := "(I)V" } : Jvm.MethodName)) :: (Jvm.Cond.privateMethod ({ cls := "AsleepPassModel", name := "layBest", desc := "(I)V" } : Jvm.MethodName)) :: tE_5_12
def tE_5_10 : List Cond := (Jvm.Cond.privateMethod ({ cls := "AsleepPassModel", name := "layOdds", desc := "(III)V" } : Jvm.MethodName)) :: (Jvm.Cond.instanceMethod ({ cls := "AsleepPassModel", name := "layOdds", desc := "(III)V" } : Jvm.MethodName)) :: (Jvm.Cond.code ({ cls := "AsleepPassModel", name := "layOdds", desc := "(III)V" } : Jvm.MethodName) prog_13_method_37_code (8 : Nat) (Option.none : Option Jvm.ClassFile.FieldType)) :: (Jvm.Cond.methodLink "AsleepPassModel" (193 : Nat) ({ cls := "AsleepPassModel", name := "orderedHarm", desc := "(IZ)I" } : Jvm.MethodName)) :: (Jvm.Cond.privateMethod ({ cls := "AsleepPassModel", name := "orderedHarm", desc := "(IZ)I" } : Jvm.MethodName)) :: (Jvm.Cond.instanceMethod ({ cls := "AsleepPassModel", name := "orderedHarm", desc := "(IZ)I" } : Jvm.MethodName)) :: (Jvm.Cond.code ({ cls := "AsleepPassModel", name := "orderedHarm", desc := "(IZ)I" } : Jvm.MethodName) prog_13_method_34_code (3 : Nat) (Option.some Jvm.ClassFile.FieldType.int)) :: (Jvm.Cond.constantLong "AsleepPassModel" (191 : Nat) (20 : Int64)) :: (Jvm.Cond.methodLink "AsleepPassModel" (197 : Nat) ({ cls := "AsleepPassModel", name := "deeper", desc := "(II)I" } : Jvm.MethodName)) :: (Jvm.Cond.static ({ cls := "AsleepPassModel", name := "deeper", desc := "(II)I" } : Jvm.MethodName)) :: (Jvm.Cond.code ({ cls := "AsleepPassModel", name := "deeper", desc := "(II)I" } : Jvm.MethodName) prog_13_method_36_code (2 : Nat) (Option.some Jvm.ClassFile.FieldType.int)) :: (Jvm.Cond.methodLink "AsleepPassModel" (206 : Nat) ({ cls := "AsleepPassModel", name := "power", desc := "(I)J" } : Jvm.MethodName)) :: (Jvm.Cond.static ({ cls := "AsleepPassModel", name := "power", desc := "(I)J" } : Jvm.MethodName)) :: (Jvm.Cond.code ({ cls := "AsleepPassModel", name := "power", desc := "(I)J" } : Jvm.MethodName) prog_13_method_35_code (4 : Nat) (Option.some Jvm.ClassFile.FieldType.long)) :: (Jvm.Cond.methodLink "AsleepPassModel" (210 : Nat) ({ cls := "AsleepPassModel", name := "lowest", desc := "(JJI)J" } : Jvm.MethodName)) :: (Jvm.Cond.static ({ cls := "AsleepPassModel", name := "lowest", desc := "(JJI)J" } : Jvm.MethodName)) :: tE_5_11
def tE_5_9 : List Cond := (Jvm.Cond.instanceMethod ({ cls := "AsleepPassModel", name := "canHarm", desc := "(III)Z" } : Jvm.MethodName)) :: (Jvm.Cond.code ({ cls := "AsleepPassModel", name := "canHarm", desc := "(III)Z" } : Jvm.MethodName) prog_13_method_32_code (4 : Nat) (Option.some Jvm.ClassFile.FieldType.boolean)) :: (Jvm.Cond.methodLink "AsleepPassModel" (187 : Nat) ({ cls := "AsleepPassModel", name := "harmOf", desc := "(IIIZ)I" } : Jvm.MethodName)) :: (Jvm.Cond.privateMethod ({ cls := "AsleepPassModel", name := "harmOf", desc := "(IIIZ)I" } : Jvm.MethodName)) :: (Jvm.Cond.instanceMethod ({ cls := "AsleepPassModel", name := "harmOf", desc := "(IIIZ)I" } : Jvm.MethodName)) :: (Jvm.Cond.code ({ cls := "AsleepPassModel", name := "harmOf", desc := "(IIIZ)I" } : Jvm.MethodName) prog_13_method_31_code (10 : Nat) (Option.some Jvm.ClassFile.FieldType.int)) :: (Jvm.Cond.methodLink "AsleepPassModel" (180 : Nat) ({ cls := "AsleepPassModel", name := "kindOf", desc := "(I)I" } : Jvm.MethodName)) :: (Jvm.Cond.privateMethod ({ cls := "AsleepPassModel", name := "kindOf", desc := "(I)I" } : Jvm.MethodName)) :: (Jvm.Cond.instanceMethod ({ cls := "AsleepPassModel", name := "kindOf", desc := "(I)I" } : Jvm.MethodName)) :: (Jvm.Cond.code ({ cls := "AsleepPassModel", name := "kindOf", desc := "(I)I" } : Jvm.MethodName) prog_13_method_30_code (2 : Nat) (Option.some Jvm.ClassFile.FieldType.int)) :: (Jvm.Cond.methodLink "AsleepPassLaw" (80 : Nat) ({ cls := "AsleepPassModel", name := "wakes", desc := "(I)J" } : Jvm.MethodName)) :: (Jvm.Cond.instanceMethod ({ cls := "AsleepPassModel", name := "wakes", desc := "(I)J" } : Jvm.MethodName)) :: (Jvm.Cond.selects "AsleepPassModel" ({ cls := "AsleepPassModel", name := "wakes", desc := "(I)J" } : Jvm.MethodName) ({ cls := "AsleepPassModel", name := "wakes", desc := "(I)J" } : Jvm.MethodName)) :: (Jvm.Cond.code ({ cls := "AsleepPassModel", name := "wakes", desc := "(I)J" } : Jvm.MethodName) prog_13_method_39_code (2 : Nat) (Option.some Jvm.ClassFile.FieldType.long)) :: (Jvm.Cond.constantLong "AsleepPassModel" (200 : Nat) (-1 : Int64)) :: (Jvm.Cond.methodLink "AsleepPassModel" (202 : Nat) ({ cls := "AsleepPassModel", name := "layOdds", desc := "(III)V" } : Jvm.MethodName)) :: tE_5_10
def tE_5_8 : List Cond := (Jvm.Cond.selects "AsleepPassModel" ({ cls := "AsleepPassModel", name := "warm", desc := "(II)I" } : Jvm.MethodName) ({ cls := "AsleepPassModel", name := "warm", desc := "(II)I" } : Jvm.MethodName)) :: (Jvm.Cond.code ({ cls := "AsleepPassModel", name := "warm", desc := "(II)I" } : Jvm.MethodName) prog_13_method_27_code (3 : Nat) (Option.some Jvm.ClassFile.FieldType.int)) :: (Jvm.Cond.methodLink "AsleepPassLaw" (70 : Nat) ({ cls := "AsleepPassModel", name := "put", desc := "(II)I" } : Jvm.MethodName)) :: (Jvm.Cond.instanceMethod ({ cls := "AsleepPassModel", name := "put", desc := "(II)I" } : Jvm.MethodName)) :: (Jvm.Cond.selects "AsleepPassModel" ({ cls := "AsleepPassModel", name := "put", desc := "(II)I" } : Jvm.MethodName) ({ cls := "AsleepPassModel", name := "put", desc := "(II)I" } : Jvm.MethodName)) :: (Jvm.Cond.code ({ cls := "AsleepPassModel", name := "put", desc := "(II)I" } : Jvm.MethodName) prog_13_method_29_code (3 : Nat) (Option.some Jvm.ClassFile.FieldType.int)) :: (Jvm.Cond.methodLink "AsleepPassModel" (176 : Nat) ({ cls := "AsleepPassModel", name := "puts", desc := "(II)I" } : Jvm.MethodName)) :: (Jvm.Cond.privateMethod ({ cls := "AsleepPassModel", name := "puts", desc := "(II)I" } : Jvm.MethodName)) :: (Jvm.Cond.instanceMethod ({ cls := "AsleepPassModel", name := "puts", desc := "(II)I" } : Jvm.MethodName)) :: (Jvm.Cond.code ({ cls := "AsleepPassModel", name := "puts", desc := "(II)I" } : Jvm.MethodName) prog_13_method_28_code (3 : Nat) (Option.some Jvm.ClassFile.FieldType.int)) :: (Jvm.Cond.methodLink "AsleepPassLaw" (75 : Nat) ({ cls := "AsleepPassModel", name := "harm", desc := "(III)I" } : Jvm.MethodName)) :: (Jvm.Cond.instanceMethod ({ cls := "AsleepPassModel", name := "harm", desc := "(III)I" } : Jvm.MethodName)) :: (Jvm.Cond.selects "AsleepPassModel" ({ cls := "AsleepPassModel", name := "harm", desc := "(III)I" } : Jvm.MethodName) ({ cls := "AsleepPassModel", name := "harm", desc := "(III)I" } : Jvm.MethodName)) :: (Jvm.Cond.code ({ cls := "AsleepPassModel", name := "harm", desc := "(III)I" } : Jvm.MethodName) prog_13_method_33_code (4 : Nat) (Option.some Jvm.ClassFile.FieldType.int)) :: (Jvm.Cond.methodLink "AsleepPassModel" (183 : Nat) ({ cls := "AsleepPassModel", name := "canHarm", desc := "(III)Z" } : Jvm.MethodName)) :: (Jvm.Cond.privateMethod ({ cls := "AsleepPassModel", name := "canHarm", desc := "(III)Z" } : Jvm.MethodName)) :: tE_5_9
def tE_5_7 : List Cond := (Jvm.Cond.instanceMethod ({ cls := "AsleepPassModel", name := "sets", desc := "(ZII)I" } : Jvm.MethodName)) :: (Jvm.Cond.code ({ cls := "AsleepPassModel", name := "sets", desc := "(ZII)I" } : Jvm.MethodName) prog_13_method_22_code (5 : Nat) (Option.some Jvm.ClassFile.FieldType.int)) :: (Jvm.Cond.methodLink "AsleepPassLaw" (54 : Nat) ({ cls := "AsleepPassModel", name := "noise", desc := "(II)I" } : Jvm.MethodName)) :: (Jvm.Cond.instanceMethod ({ cls := "AsleepPassModel", name := "noise", desc := "(II)I" } : Jvm.MethodName)) :: (Jvm.Cond.selects "AsleepPassModel" ({ cls := "AsleepPassModel", name := "noise", desc := "(II)I" } : Jvm.MethodName) ({ cls := "AsleepPassModel", name := "noise", desc := "(II)I" } : Jvm.MethodName)) :: (Jvm.Cond.code ({ cls := "AsleepPassModel", name := "noise", desc := "(II)I" } : Jvm.MethodName) prog_13_method_24_code (3 : Nat) (Option.some Jvm.ClassFile.FieldType.int)) :: (Jvm.Cond.methodLink "AsleepPassLaw" (58 : Nat) ({ cls := "AsleepPassModel", name := "cold", desc := "(II)I" } : Jvm.MethodName)) :: (Jvm.Cond.instanceMethod ({ cls := "AsleepPassModel", name := "cold", desc := "(II)I" } : Jvm.MethodName)) :: (Jvm.Cond.selects "AsleepPassModel" ({ cls := "AsleepPassModel", name := "cold", desc := "(II)I" } : Jvm.MethodName) ({ cls := "AsleepPassModel", name := "cold", desc := "(II)I" } : Jvm.MethodName)) :: (Jvm.Cond.code ({ cls := "AsleepPassModel", name := "cold", desc := "(II)I" } : Jvm.MethodName) prog_13_method_25_code (3 : Nat) (Option.some Jvm.ClassFile.FieldType.int)) :: (Jvm.Cond.methodLink "AsleepPassLaw" (62 : Nat) ({ cls := "AsleepPassModel", name := "step", desc := "(II)I" } : Jvm.MethodName)) :: (Jvm.Cond.instanceMethod ({ cls := "AsleepPassModel", name := "step", desc := "(II)I" } : Jvm.MethodName)) :: (Jvm.Cond.selects "AsleepPassModel" ({ cls := "AsleepPassModel", name := "step", desc := "(II)I" } : Jvm.MethodName) ({ cls := "AsleepPassModel", name := "step", desc := "(II)I" } : Jvm.MethodName)) :: (Jvm.Cond.code ({ cls := "AsleepPassModel", name := "step", desc := "(II)I" } : Jvm.MethodName) prog_13_method_26_code (3 : Nat) (Option.some Jvm.ClassFile.FieldType.int)) :: (Jvm.Cond.methodLink "AsleepPassLaw" (66 : Nat) ({ cls := "AsleepPassModel", name := "warm", desc := "(II)I" } : Jvm.MethodName)) :: (Jvm.Cond.instanceMethod ({ cls := "AsleepPassModel", name := "warm", desc := "(II)I" } : Jvm.MethodName)) :: tE_5_8
def tE_5_6 : List Cond := (Jvm.Cond.constantLong "AsleepPassModel" (165 : Nat) (2 : Int64)) :: (Jvm.Cond.methodLink "AsleepPassLaw" (46 : Nat) ({ cls := "AsleepPassModel", name := "bearer", desc := "(II)I" } : Jvm.MethodName)) :: (Jvm.Cond.instanceMethod ({ cls := "AsleepPassModel", name := "bearer", desc := "(II)I" } : Jvm.MethodName)) :: (Jvm.Cond.selects "AsleepPassModel" ({ cls := "AsleepPassModel", name := "bearer", desc := "(II)I" } : Jvm.MethodName) ({ cls := "AsleepPassModel", name := "bearer", desc := "(II)I" } : Jvm.MethodName)) :: (Jvm.Cond.code ({ cls := "AsleepPassModel", name := "bearer", desc := "(II)I" } : Jvm.MethodName) prog_13_method_21_code (3 : Nat) (Option.some Jvm.ClassFile.FieldType.int)) :: (Jvm.Cond.methodLink "AsleepPassModel" (167 : Nat) ({ cls := "AsleepPassModel", name := "isBearer", desc := "(I)Z" } : Jvm.MethodName)) :: (Jvm.Cond.privateMethod ({ cls := "AsleepPassModel", name := "isBearer", desc := "(I)Z" } : Jvm.MethodName)) :: (Jvm.Cond.instanceMethod ({ cls := "AsleepPassModel", name := "isBearer", desc := "(I)Z" } : Jvm.MethodName)) :: (Jvm.Cond.code ({ cls := "AsleepPassModel", name := "isBearer", desc := "(I)Z" } : Jvm.MethodName) prog_13_method_17_code (2 : Nat) (Option.some Jvm.ClassFile.FieldType.boolean)) :: (Jvm.Cond.methodLink "AsleepPassLaw" (50 : Nat) ({ cls := "AsleepPassModel", name := "start", desc := "(I)I" } : Jvm.MethodName)) :: (Jvm.Cond.instanceMethod ({ cls := "AsleepPassModel", name := "start", desc := "(I)I" } : Jvm.MethodName)) :: (Jvm.Cond.selects "AsleepPassModel" ({ cls := "AsleepPassModel", name := "start", desc := "(I)I" } : Jvm.MethodName) ({ cls := "AsleepPassModel", name := "start", desc := "(I)I" } : Jvm.MethodName)) :: (Jvm.Cond.code ({ cls := "AsleepPassModel", name := "start", desc := "(I)I" } : Jvm.MethodName) prog_13_method_23_code (2 : Nat) (Option.some Jvm.ClassFile.FieldType.int)) :: (Jvm.Cond.constantLong "AsleepPassModel" (170 : Nat) (9 : Int64)) :: (Jvm.Cond.methodLink "AsleepPassModel" (172 : Nat) ({ cls := "AsleepPassModel", name := "sets", desc := "(ZII)I" } : Jvm.MethodName)) :: (Jvm.Cond.privateMethod ({ cls := "AsleepPassModel", name := "sets", desc := "(ZII)I" } : Jvm.MethodName)) :: tE_5_7
def tE_5_5 : List Cond := (Jvm.Cond.methodLink "AsleepPassLaw" (37 : Nat) ({ cls := "AsleepPassModel", name := "rule", desc := "(I)I" } : Jvm.MethodName)) :: (Jvm.Cond.instanceMethod ({ cls := "AsleepPassModel", name := "rule", desc := "(I)I" } : Jvm.MethodName)) :: (Jvm.Cond.selects "AsleepPassModel" ({ cls := "AsleepPassModel", name := "rule", desc := "(I)I" } : Jvm.MethodName) ({ cls := "AsleepPassModel", name := "rule", desc := "(I)I" } : Jvm.MethodName)) :: (Jvm.Cond.code ({ cls := "AsleepPassModel", name := "rule", desc := "(I)I" } : Jvm.MethodName) prog_13_method_19_code (2 : Nat) (Option.some Jvm.ClassFile.FieldType.int)) :: (Jvm.Cond.methodLink "AsleepPassModel" (158 : Nat) ({ cls := "AsleepPassModel", name := "startNow", desc := "()I" } : Jvm.MethodName)) :: (Jvm.Cond.privateMethod ({ cls := "AsleepPassModel", name := "startNow", desc := "()I" } : Jvm.MethodName)) :: (Jvm.Cond.instanceMethod ({ cls := "AsleepPassModel", name := "startNow", desc := "()I" } : Jvm.MethodName)) :: (Jvm.Cond.code ({ cls := "AsleepPassModel", name := "startNow", desc := "()I" } : Jvm.MethodName) prog_13_method_18_code (1 : Nat) (Option.some Jvm.ClassFile.FieldType.int)) :: (Jvm.Cond.methodLink "AsleepPassLaw" (42 : Nat) ({ cls := "AsleepPassModel", name := "stretch", desc := "(II)I" } : Jvm.MethodName)) :: (Jvm.Cond.instanceMethod ({ cls := "AsleepPassModel", name := "stretch", desc := "(II)I" } : Jvm.MethodName)) :: (Jvm.Cond.selects "AsleepPassModel" ({ cls := "AsleepPassModel", name := "stretch", desc := "(II)I" } : Jvm.MethodName) ({ cls := "AsleepPassModel", name := "stretch", desc := "(II)I" } : Jvm.MethodName)) :: (Jvm.Cond.code ({ cls := "AsleepPassModel", name := "stretch", desc := "(II)I" } : Jvm.MethodName) prog_13_method_20_code (3 : Nat) (Option.some Jvm.ClassFile.FieldType.int)) :: (Jvm.Cond.methodLink "AsleepPassModel" (161 : Nat) ({ cls := "AsleepPassModel", name := "isStretch", desc := "(I)Z" } : Jvm.MethodName)) :: (Jvm.Cond.privateMethod ({ cls := "AsleepPassModel", name := "isStretch", desc := "(I)Z" } : Jvm.MethodName)) :: (Jvm.Cond.instanceMethod ({ cls := "AsleepPassModel", name := "isStretch", desc := "(I)Z" } : Jvm.MethodName)) :: (Jvm.Cond.code ({ cls := "AsleepPassModel", name := "isStretch", desc := "(I)Z" } : Jvm.MethodName) prog_13_method_16_code (2 : Nat) (Option.some Jvm.ClassFile.FieldType.boolean)) :: tE_5_6
def tE_5_4 : List Cond := (Jvm.Cond.methodLink "AsleepPassModel" (134 : Nat) ({ cls := "AsleepPassModel", name := "readBearer", desc := "()V" } : Jvm.MethodName)) :: (Jvm.Cond.privateMethod ({ cls := "AsleepPassModel", name := "readBearer", desc := "()V" } : Jvm.MethodName)) :: (Jvm.Cond.instanceMethod ({ cls := "AsleepPassModel", name := "readBearer", desc := "()V" } : Jvm.MethodName)) :: (Jvm.Cond.code ({ cls := "AsleepPassModel", name := "readBearer", desc := "()V" } : Jvm.MethodName) prog_13_method_11_code (3 : Nat) (Option.none : Option Jvm.ClassFile.FieldType)) :: (Jvm.Cond.methodLink "AsleepPassModel" (112 : Nat) ({ cls := "AsleepPassModel", name := "other", desc := "(III)I" } : Jvm.MethodName)) :: (Jvm.Cond.privateMethod ({ cls := "AsleepPassModel", name := "other", desc := "(III)I" } : Jvm.MethodName)) :: (Jvm.Cond.instanceMethod ({ cls := "AsleepPassModel", name := "other", desc := "(III)I" } : Jvm.MethodName)) :: (Jvm.Cond.code ({ cls := "AsleepPassModel", name := "other", desc := "(III)I" } : Jvm.MethodName) prog_13_method_10_code (5 : Nat) (Option.some Jvm.ClassFile.FieldType.int)) :: (Jvm.Cond.methodLink "AsleepPassModel" (137 : Nat) ({ cls := "AsleepPassModel", name := "readMore", desc := "(I)V" } : Jvm.MethodName)) :: (Jvm.Cond.privateMethod ({ cls := "AsleepPassModel", name := "readMore", desc := "(I)V" } : Jvm.MethodName)) :: (Jvm.Cond.instanceMethod ({ cls := "AsleepPassModel", name := "readMore", desc := "(I)V" } : Jvm.MethodName)) :: (Jvm.Cond.code ({ cls := "AsleepPassModel", name := "readMore", desc := "(I)V" } : Jvm.MethodName) prog_13_method_12_code (4 : Nat) (Option.none : Option Jvm.ClassFile.FieldType)) :: (Jvm.Cond.methodLink "AsleepPassLaw" (33 : Nat) ({ cls := "AsleepPassModel", name := "fault", desc := "()I" } : Jvm.MethodName)) :: (Jvm.Cond.instanceMethod ({ cls := "AsleepPassModel", name := "fault", desc := "()I" } : Jvm.MethodName)) :: (Jvm.Cond.selects "AsleepPassModel" ({ cls := "AsleepPassModel", name := "fault", desc := "()I" } : Jvm.MethodName) ({ cls := "AsleepPassModel", name := "fault", desc := "()I" } : Jvm.MethodName)) :: (Jvm.Cond.code ({ cls := "AsleepPassModel", name := "fault", desc := "()I" } : Jvm.MethodName) prog_13_method_15_code (1 : Nat) (Option.some Jvm.ClassFile.FieldType.int)) :: tE_5_5
def tE_5_3 : List Cond := (Jvm.Cond.constantLong "AsleepPassModel" (92 : Nat) (122 : Int64)) :: (Jvm.Cond.constantLong "AsleepPassModel" (94 : Nat) (48 : Int64)) :: (Jvm.Cond.constantLong "AsleepPassModel" (96 : Nat) (57 : Int64)) :: (Jvm.Cond.methodLink "AsleepPassModel" (98 : Nat) ({ cls := "AsleepPassModel", name := "fails", desc := "(I)V" } : Jvm.MethodName)) :: (Jvm.Cond.privateMethod ({ cls := "AsleepPassModel", name := "fails", desc := "(I)V" } : Jvm.MethodName)) :: (Jvm.Cond.instanceMethod ({ cls := "AsleepPassModel", name := "fails", desc := "(I)V" } : Jvm.MethodName)) :: (Jvm.Cond.code ({ cls := "AsleepPassModel", name := "fails", desc := "(I)V" } : Jvm.MethodName) prog_13_method_7_code (2 : Nat) (Option.none : Option Jvm.ClassFile.FieldType)) :: (Jvm.Cond.methodLink "AsleepPassModel" (140 : Nat) ({ cls := "AsleepPassModel", name := "readLine", desc := "()V" } : Jvm.MethodName)) :: (Jvm.Cond.privateMethod ({ cls := "AsleepPassModel", name := "readLine", desc := "()V" } : Jvm.MethodName)) :: (Jvm.Cond.instanceMethod ({ cls := "AsleepPassModel", name := "readLine", desc := "()V" } : Jvm.MethodName)) :: (Jvm.Cond.code ({ cls := "AsleepPassModel", name := "readLine", desc := "()V" } : Jvm.MethodName) prog_13_method_13_code (2 : Nat) (Option.none : Option Jvm.ClassFile.FieldType)) :: (Jvm.Cond.methodLink "AsleepPassModel" (108 : Nat) ({ cls := "AsleepPassModel", name := "nameHere", desc := "()I" } : Jvm.MethodName)) :: (Jvm.Cond.privateMethod ({ cls := "AsleepPassModel", name := "nameHere", desc := "()I" } : Jvm.MethodName)) :: (Jvm.Cond.instanceMethod ({ cls := "AsleepPassModel", name := "nameHere", desc := "()I" } : Jvm.MethodName)) :: (Jvm.Cond.code ({ cls := "AsleepPassModel", name := "nameHere", desc := "()I" } : Jvm.MethodName) prog_13_method_8_code (4 : Nat) (Option.some Jvm.ClassFile.FieldType.int)) :: (Jvm.Cond.constantLong "AsleepPassModel" (132 : Nat) (3 : Int64)) :: tE_5_4
def tE_5_2 : List Cond := (Jvm.Cond.methodLink "AsleepPassModel" (64 : Nat) ({ cls := "AsleepPassModel", name := "in", desc := "(JJJ)Z" } : Jvm.MethodName)) :: (Jvm.Cond.static ({ cls := "AsleepPassModel", name := "in", desc := "(JJJ)Z" } : Jvm.MethodName)) :: (Jvm.Cond.code ({ cls := "AsleepPassModel", name := "in", desc := "(JJJ)Z" } : Jvm.MethodName) prog_13_method_3_code (6 : Nat) (Option.some Jvm.ClassFile.FieldType.boolean)) :: (Jvm.Cond.methodLink "AsleepPassLaw" (29 : Nat) ({ cls := "AsleepPassModel", name := "text", desc := "()I" } : Jvm.MethodName)) :: (Jvm.Cond.instanceMethod ({ cls := "AsleepPassModel", name := "text", desc := "()I" } : Jvm.MethodName)) :: (Jvm.Cond.selects "AsleepPassModel" ({ cls := "AsleepPassModel", name := "text", desc := "()I" } : Jvm.MethodName) ({ cls := "AsleepPassModel", name := "text", desc := "()I" } : Jvm.MethodName)) :: (Jvm.Cond.code ({ cls := "AsleepPassModel", name := "text", desc := "()I" } : Jvm.MethodName) prog_13_method_14_code (3 : Nat) (Option.some Jvm.ClassFile.FieldType.int)) :: (Jvm.Cond.methodLink "AsleepPassModel" (102 : Nat) ({ cls := "AsleepPassModel", name := "goesOn", desc := "()V" } : Jvm.MethodName)) :: (Jvm.Cond.privateMethod ({ cls := "AsleepPassModel", name := "goesOn", desc := "()V" } : Jvm.MethodName)) :: (Jvm.Cond.instanceMethod ({ cls := "AsleepPassModel", name := "goesOn", desc := "()V" } : Jvm.MethodName)) :: (Jvm.Cond.code ({ cls := "AsleepPassModel", name := "goesOn", desc := "()V" } : Jvm.MethodName) prog_13_method_9_code (2 : Nat) (Option.none : Option Jvm.ClassFile.FieldType)) :: (Jvm.Cond.methodLink "AsleepPassModel" (83 : Nat) ({ cls := "AsleepPassModel", name := "byteAt", desc := "(I)I" } : Jvm.MethodName)) :: (Jvm.Cond.privateMethod ({ cls := "AsleepPassModel", name := "byteAt", desc := "(I)I" } : Jvm.MethodName)) :: (Jvm.Cond.instanceMethod ({ cls := "AsleepPassModel", name := "byteAt", desc := "(I)I" } : Jvm.MethodName)) :: (Jvm.Cond.code ({ cls := "AsleepPassModel", name := "byteAt", desc := "(I)I" } : Jvm.MethodName) prog_13_method_6_code (2 : Nat) (Option.some Jvm.ClassFile.FieldType.int)) :: (Jvm.Cond.constantLong "AsleepPassModel" (90 : Nat) (97 : Int64)) :: tE_5_3
def tE_5_1 : List Cond := (Jvm.Cond.soleField "AsleepPassModel" "lanes") :: (Jvm.Cond.laysFinal "AsleepPassModel" "AsleepPassModel" "lengths" "[I") :: (Jvm.Cond.soleField "AsleepPassModel" "lengths") :: (Jvm.Cond.laysFinal "AsleepPassModel" "AsleepPassModel" "cells" "[I") :: (Jvm.Cond.soleField "AsleepPassModel" "cells") :: (Jvm.Cond.lays "AsleepPassModel" "AsleepPassModel" "torn" "I") :: (Jvm.Cond.soleField "AsleepPassModel" "torn") :: (Jvm.Cond.superclass "AsleepPassModel" "java/lang/Object") :: (Jvm.Cond.methodLink "AsleepPassLaw" (19 : Nat) ({ cls := "AsleepPassModel", name := "feed", desc := "(J)I" } : Jvm.MethodName)) :: (Jvm.Cond.instanceMethod ({ cls := "AsleepPassModel", name := "feed", desc := "(J)I" } : Jvm.MethodName)) :: (Jvm.Cond.selects "AsleepPassModel" ({ cls := "AsleepPassModel", name := "feed", desc := "(J)I" } : Jvm.MethodName) ({ cls := "AsleepPassModel", name := "feed", desc := "(J)I" } : Jvm.MethodName)) :: (Jvm.Cond.code ({ cls := "AsleepPassModel", name := "feed", desc := "(J)I" } : Jvm.MethodName) prog_13_method_4_code (4 : Nat) (Option.some Jvm.ClassFile.FieldType.int)) :: (Jvm.Cond.methodLink "AsleepPassLaw" (24 : Nat) ({ cls := "AsleepPassModel", name := "end", desc := "(I)I" } : Jvm.MethodName)) :: (Jvm.Cond.instanceMethod ({ cls := "AsleepPassModel", name := "end", desc := "(I)I" } : Jvm.MethodName)) :: (Jvm.Cond.selects "AsleepPassModel" ({ cls := "AsleepPassModel", name := "end", desc := "(I)I" } : Jvm.MethodName) ({ cls := "AsleepPassModel", name := "end", desc := "(I)I" } : Jvm.MethodName)) :: (Jvm.Cond.code ({ cls := "AsleepPassModel", name := "end", desc := "(I)I" } : Jvm.MethodName) prog_13_method_5_code (3 : Nat) (Option.some Jvm.ClassFile.FieldType.int)) :: tE_5_2
def tE_5_0 : List Cond := (Jvm.Cond.soleField "AsleepPassModel" "bests") :: (Jvm.Cond.laysFinal "AsleepPassModel" "AsleepPassModel" "learnt" "[I") :: (Jvm.Cond.soleField "AsleepPassModel" "learnt") :: (Jvm.Cond.lays "AsleepPassModel" "AsleepPassModel" "learntMany" "I") :: (Jvm.Cond.soleField "AsleepPassModel" "learntMany") :: (Jvm.Cond.laysFinal "AsleepPassModel" "AsleepPassModel" "marks" "[I") :: (Jvm.Cond.soleField "AsleepPassModel" "marks") :: (Jvm.Cond.lays "AsleepPassModel" "AsleepPassModel" "markMany" "I") :: (Jvm.Cond.soleField "AsleepPassModel" "markMany") :: (Jvm.Cond.laysFinal "AsleepPassModel" "AsleepPassModel" "ahead" "[I") :: (Jvm.Cond.soleField "AsleepPassModel" "ahead") :: (Jvm.Cond.laysFinal "AsleepPassModel" "AsleepPassModel" "behind" "[I") :: (Jvm.Cond.soleField "AsleepPassModel" "behind") :: (Jvm.Cond.laysFinal "AsleepPassModel" "AsleepPassModel" "isKept" "[Z") :: (Jvm.Cond.soleField "AsleepPassModel" "isKept") :: (Jvm.Cond.laysFinal "AsleepPassModel" "AsleepPassModel" "lanes" "[I") :: tE_5_1
set_option maxRecDepth 100000 in
theorem tE_5 : tables_1_5 = tE_5_0 := rfl
theorem sE_5_0 {w : Cond} (h : w ∈ tE_5_0) : w ∈ tables_1 := (List.mem_append_right _ (List.mem_append_right _ (List.mem_append_right _ (List.mem_append_right _ (List.mem_append_left _ (by rw [tE_5]; exact h))))))
theorem sE_5_1 {w : Cond} (h : w ∈ tE_5_1) : w ∈ tables_1 := sE_5_0 (mc16 h)
theorem sE_5_2 {w : Cond} (h : w ∈ tE_5_2) : w ∈ tables_1 := sE_5_1 (mc16 h)
theorem sE_5_3 {w : Cond} (h : w ∈ tE_5_3) : w ∈ tables_1 := sE_5_2 (mc16 h)
theorem sE_5_4 {w : Cond} (h : w ∈ tE_5_4) : w ∈ tables_1 := sE_5_3 (mc16 h)
theorem sE_5_5 {w : Cond} (h : w ∈ tE_5_5) : w ∈ tables_1 := sE_5_4 (mc16 h)
theorem sE_5_6 {w : Cond} (h : w ∈ tE_5_6) : w ∈ tables_1 := sE_5_5 (mc16 h)
theorem sE_5_7 {w : Cond} (h : w ∈ tE_5_7) : w ∈ tables_1 := sE_5_6 (mc16 h)
theorem sE_5_8 {w : Cond} (h : w ∈ tE_5_8) : w ∈ tables_1 := sE_5_7 (mc16 h)
theorem sE_5_9 {w : Cond} (h : w ∈ tE_5_9) : w ∈ tables_1 := sE_5_8 (mc16 h)
theorem sE_5_10 {w : Cond} (h : w ∈ tE_5_10) : w ∈ tables_1 := sE_5_9 (mc16 h)
theorem sE_5_11 {w : Cond} (h : w ∈ tE_5_11) : w ∈ tables_1 := sE_5_10 (mc16 h)
theorem sE_5_12 {w : Cond} (h : w ∈ tE_5_12) : w ∈ tables_1 := sE_5_11 (mc16 h)
theorem sE_5_13 {w : Cond} (h : w ∈ tE_5_13) : w ∈ tables_1 := sE_5_12 (mc16 h)
theorem sE_5_14 {w : Cond} (h : w ∈ tE_5_14) : w ∈ tables_1 := sE_5_13 (mc16 h)
def tE_6_4 : List Cond := (Jvm.Cond.methodLink "AsleepPassLaw" (171 : Nat) ({ cls := "AsleepPassModel", name := "read", desc := "(IIII)I" } : Jvm.MethodName)) :: (Jvm.Cond.instanceMethod ({ cls := "AsleepPassModel", name := "read", desc := "(IIII)I" } : Jvm.MethodName)) :: (Jvm.Cond.selects "AsleepPassModel" ({ cls := "AsleepPassModel", name := "read", desc := "(IIII)I" } : Jvm.MethodName) ({ cls := "AsleepPassModel", name := "read", desc := "(IIII)I" } : Jvm.MethodName)) :: (Jvm.Cond.code ({ cls := "AsleepPassModel", name := "read", desc := "(IIII)I" } : Jvm.MethodName) prog_13_method_71_code (9 : Nat) (Option.some Jvm.ClassFile.FieldType.int)) :: (Jvm.Cond.methodLink "AsleepPassLaw" (175 : Nat) ({ cls := "AsleepPassModel", name := "torn", desc := "()I" } : Jvm.MethodName)) :: (Jvm.Cond.instanceMethod ({ cls := "AsleepPassModel", name := "torn", desc := "()I" } : Jvm.MethodName)) :: (Jvm.Cond.selects "AsleepPassModel" ({ cls := "AsleepPassModel", name := "torn", desc := "()I" } : Jvm.MethodName) ({ cls := "AsleepPassModel", name := "torn", desc := "()I" } : Jvm.MethodName)) :: (Jvm.Cond.code ({ cls := "AsleepPassModel", name := "torn", desc := "()I" } : Jvm.MethodName) prog_13_method_72_code (1 : Nat) (Option.some Jvm.ClassFile.FieldType.int)) :: (Jvm.Cond.methodLink "AsleepPassLaw" (179 : Nat) ({ cls := "AsleepPassModel", name := "count", desc := "(I)I" } : Jvm.MethodName)) :: (Jvm.Cond.instanceMethod ({ cls := "AsleepPassModel", name := "count", desc := "(I)I" } : Jvm.MethodName)) :: (Jvm.Cond.selects "AsleepPassModel" ({ cls := "AsleepPassModel", name := "count", desc := "(I)I" } : Jvm.MethodName) ({ cls := "AsleepPassModel", name := "count", desc := "(I)I" } : Jvm.MethodName)) :: (Jvm.Cond.code ({ cls := "AsleepPassModel", name := "count", desc := "(I)I" } : Jvm.MethodName) prog_13_method_73_code (4 : Nat) (Option.some Jvm.ClassFile.FieldType.int)) :: (Jvm.Cond.constantLong "AsleepPassLaw" (13 : Nat) (4294967295 : Int64)) :: (Jvm.Cond.fieldLink "java/lang/String" (9 : Nat) "java/lang/String" "value" "[B") :: (Jvm.Cond.fieldLink "java/lang/String" (15 : Nat) "java/lang/String" "coder" "B") :: []
def tE_6_3 : List Cond := (Jvm.Cond.methodLink "AsleepPassModel" (256 : Nat) ({ cls := "AsleepPassModel", name := "copies", desc := "(II)V" } : Jvm.MethodName)) :: (Jvm.Cond.privateMethod ({ cls := "AsleepPassModel", name := "copies", desc := "(II)V" } : Jvm.MethodName)) :: (Jvm.Cond.instanceMethod ({ cls := "AsleepPassModel", name := "copies", desc := "(II)V" } : Jvm.MethodName)) :: (Jvm.Cond.code ({ cls := "AsleepPassModel", name := "copies", desc := "(II)V" } : Jvm.MethodName) prog_13_method_66_code (4 : Nat) (Option.none : Option Jvm.ClassFile.FieldType)) :: (Jvm.Cond.methodLink "AsleepPassLaw" (159 : Nat) ({ cls := "AsleepPassModel", name := "back", desc := "(I)I" } : Jvm.MethodName)) :: (Jvm.Cond.instanceMethod ({ cls := "AsleepPassModel", name := "back", desc := "(I)I" } : Jvm.MethodName)) :: (Jvm.Cond.selects "AsleepPassModel" ({ cls := "AsleepPassModel", name := "back", desc := "(I)I" } : Jvm.MethodName) ({ cls := "AsleepPassModel", name := "back", desc := "(I)I" } : Jvm.MethodName)) :: (Jvm.Cond.code ({ cls := "AsleepPassModel", name := "back", desc := "(I)I" } : Jvm.MethodName) prog_13_method_68_code (2 : Nat) (Option.some Jvm.ClassFile.FieldType.int)) :: (Jvm.Cond.methodLink "AsleepPassLaw" (163 : Nat) ({ cls := "AsleepPassModel", name := "sheet", desc := "(III)I" } : Jvm.MethodName)) :: (Jvm.Cond.instanceMethod ({ cls := "AsleepPassModel", name := "sheet", desc := "(III)I" } : Jvm.MethodName)) :: (Jvm.Cond.selects "AsleepPassModel" ({ cls := "AsleepPassModel", name := "sheet", desc := "(III)I" } : Jvm.MethodName) ({ cls := "AsleepPassModel", name := "sheet", desc := "(III)I" } : Jvm.MethodName)) :: (Jvm.Cond.code ({ cls := "AsleepPassModel", name := "sheet", desc := "(III)I" } : Jvm.MethodName) prog_13_method_69_code (5 : Nat) (Option.some Jvm.ClassFile.FieldType.int)) :: (Jvm.Cond.methodLink "AsleepPassLaw" (167 : Nat) ({ cls := "AsleepPassModel", name := "lay", desc := "(III)I" } : Jvm.MethodName)) :: (Jvm.Cond.instanceMethod ({ cls := "AsleepPassModel", name := "lay", desc := "(III)I" } : Jvm.MethodName)) :: (Jvm.Cond.selects "AsleepPassModel" ({ cls := "AsleepPassModel", name := "lay", desc := "(III)I" } : Jvm.MethodName) ({ cls := "AsleepPassModel", name := "lay", desc := "(III)I" } : Jvm.MethodName)) :: (Jvm.Cond.code ({ cls := "AsleepPassModel", name := "lay", desc := "(III)I" } : Jvm.MethodName) prog_13_method_70_code (4 : Nat) (Option.some Jvm.ClassFile.FieldType.int)) :: tE_6_4
def tE_6_2 : List Cond := (Jvm.Cond.methodLink "AsleepPassModel" (250 : Nat) ({ cls := "AsleepPassModel", name := "onward", desc := "(IIZ)I" } : Jvm.MethodName)) :: (Jvm.Cond.privateMethod ({ cls := "AsleepPassModel", name := "onward", desc := "(IIZ)I" } : Jvm.MethodName)) :: (Jvm.Cond.instanceMethod ({ cls := "AsleepPassModel", name := "onward", desc := "(IIZ)I" } : Jvm.MethodName)) :: (Jvm.Cond.code ({ cls := "AsleepPassModel", name := "onward", desc := "(IIZ)I" } : Jvm.MethodName) prog_13_method_62_code (5 : Nat) (Option.some Jvm.ClassFile.FieldType.int)) :: (Jvm.Cond.methodLink "AsleepPassLaw" (147 : Nat) ({ cls := "AsleepPassModel", name := "eye", desc := "(I)I" } : Jvm.MethodName)) :: (Jvm.Cond.instanceMethod ({ cls := "AsleepPassModel", name := "eye", desc := "(I)I" } : Jvm.MethodName)) :: (Jvm.Cond.selects "AsleepPassModel" ({ cls := "AsleepPassModel", name := "eye", desc := "(I)I" } : Jvm.MethodName) ({ cls := "AsleepPassModel", name := "eye", desc := "(I)I" } : Jvm.MethodName)) :: (Jvm.Cond.code ({ cls := "AsleepPassModel", name := "eye", desc := "(I)I" } : Jvm.MethodName) prog_13_method_64_code (4 : Nat) (Option.some Jvm.ClassFile.FieldType.int)) :: (Jvm.Cond.methodLink "AsleepPassLaw" (151 : Nat) ({ cls := "AsleepPassModel", name := "sure", desc := "(I)I" } : Jvm.MethodName)) :: (Jvm.Cond.instanceMethod ({ cls := "AsleepPassModel", name := "sure", desc := "(I)I" } : Jvm.MethodName)) :: (Jvm.Cond.selects "AsleepPassModel" ({ cls := "AsleepPassModel", name := "sure", desc := "(I)I" } : Jvm.MethodName) ({ cls := "AsleepPassModel", name := "sure", desc := "(I)I" } : Jvm.MethodName)) :: (Jvm.Cond.code ({ cls := "AsleepPassModel", name := "sure", desc := "(I)I" } : Jvm.MethodName) prog_13_method_65_code (7 : Nat) (Option.some Jvm.ClassFile.FieldType.int)) :: (Jvm.Cond.methodLink "AsleepPassLaw" (155 : Nat) ({ cls := "AsleepPassModel", name := "keep", desc := "(I)I" } : Jvm.MethodName)) :: (Jvm.Cond.instanceMethod ({ cls := "AsleepPassModel", name := "keep", desc := "(I)I" } : Jvm.MethodName)) :: (Jvm.Cond.selects "AsleepPassModel" ({ cls := "AsleepPassModel", name := "keep", desc := "(I)I" } : Jvm.MethodName) ({ cls := "AsleepPassModel", name := "keep", desc := "(I)I" } : Jvm.MethodName)) :: (Jvm.Cond.code ({ cls := "AsleepPassModel", name := "keep", desc := "(I)I" } : Jvm.MethodName) prog_13_method_67_code (3 : Nat) (Option.some Jvm.ClassFile.FieldType.int)) :: tE_6_3
def tE_6_1 : List Cond := (Jvm.Cond.methodLink "AsleepPassLaw" (143 : Nat) ({ cls := "AsleepPassModel", name := "paths", desc := "()I" } : Jvm.MethodName)) :: (Jvm.Cond.instanceMethod ({ cls := "AsleepPassModel", name := "paths", desc := "()I" } : Jvm.MethodName)) :: (Jvm.Cond.selects "AsleepPassModel" ({ cls := "AsleepPassModel", name := "paths", desc := "()I" } : Jvm.MethodName) ({ cls := "AsleepPassModel", name := "paths", desc := "()I" } : Jvm.MethodName)) :: (Jvm.Cond.code ({ cls := "AsleepPassModel", name := "paths", desc := "()I" } : Jvm.MethodName) prog_13_method_63_code (1 : Nat) (Option.some Jvm.ClassFile.FieldType.int)) :: (Jvm.Cond.methodLink "AsleepPassModel" (253 : Nat) ({ cls := "AsleepPassModel", name := "layPaths", desc := "()V" } : Jvm.MethodName)) :: (Jvm.Cond.privateMethod ({ cls := "AsleepPassModel", name := "layPaths", desc := "()V" } : Jvm.MethodName)) :: (Jvm.Cond.instanceMethod ({ cls := "AsleepPassModel", name := "layPaths", desc := "()V" } : Jvm.MethodName)) :: (Jvm.Cond.code ({ cls := "AsleepPassModel", name := "layPaths", desc := "()V" } : Jvm.MethodName) prog_13_method_61_code (6 : Nat) (Option.none : Option Jvm.ClassFile.FieldType)) :: (Jvm.Cond.methodLink "AsleepPassModel" (246 : Nat) ({ cls := "AsleepPassModel", name := "depthThen", desc := "(IIZ)I" } : Jvm.MethodName)) :: (Jvm.Cond.privateMethod ({ cls := "AsleepPassModel", name := "depthThen", desc := "(IIZ)I" } : Jvm.MethodName)) :: (Jvm.Cond.instanceMethod ({ cls := "AsleepPassModel", name := "depthThen", desc := "(IIZ)I" } : Jvm.MethodName)) :: (Jvm.Cond.code ({ cls := "AsleepPassModel", name := "depthThen", desc := "(IIZ)I" } : Jvm.MethodName) prog_13_method_60_code (6 : Nat) (Option.some Jvm.ClassFile.FieldType.int)) :: (Jvm.Cond.methodLink "AsleepPassModel" (242 : Nat) ({ cls := "AsleepPassModel", name := "isMarked", desc := "(II)Z" } : Jvm.MethodName)) :: (Jvm.Cond.privateMethod ({ cls := "AsleepPassModel", name := "isMarked", desc := "(II)Z" } : Jvm.MethodName)) :: (Jvm.Cond.instanceMethod ({ cls := "AsleepPassModel", name := "isMarked", desc := "(II)Z" } : Jvm.MethodName)) :: (Jvm.Cond.code ({ cls := "AsleepPassModel", name := "isMarked", desc := "(II)Z" } : Jvm.MethodName) prog_13_method_59_code (5 : Nat) (Option.some Jvm.ClassFile.FieldType.boolean)) :: tE_6_2
def tE_6_0 : List Cond := (Jvm.Cond.methodLink "AsleepPassLaw" (127 : Nat) ({ cls := "AsleepPassModel", name := "forget", desc := "(I)I" } : Jvm.MethodName)) :: (Jvm.Cond.instanceMethod ({ cls := "AsleepPassModel", name := "forget", desc := "(I)I" } : Jvm.MethodName)) :: (Jvm.Cond.selects "AsleepPassModel" ({ cls := "AsleepPassModel", name := "forget", desc := "(I)I" } : Jvm.MethodName) ({ cls := "AsleepPassModel", name := "forget", desc := "(I)I" } : Jvm.MethodName)) :: (Jvm.Cond.code ({ cls := "AsleepPassModel", name := "forget", desc := "(I)I" } : Jvm.MethodName) prog_13_method_55_code (3 : Nat) (Option.some Jvm.ClassFile.FieldType.int)) :: (Jvm.Cond.methodLink "AsleepPassLaw" (131 : Nat) ({ cls := "AsleepPassModel", name := "steps", desc := "(II)I" } : Jvm.MethodName)) :: (Jvm.Cond.instanceMethod ({ cls := "AsleepPassModel", name := "steps", desc := "(II)I" } : Jvm.MethodName)) :: (Jvm.Cond.selects "AsleepPassModel" ({ cls := "AsleepPassModel", name := "steps", desc := "(II)I" } : Jvm.MethodName) ({ cls := "AsleepPassModel", name := "steps", desc := "(II)I" } : Jvm.MethodName)) :: (Jvm.Cond.code ({ cls := "AsleepPassModel", name := "steps", desc := "(II)I" } : Jvm.MethodName) prog_13_method_56_code (11 : Nat) (Option.some Jvm.ClassFile.FieldType.int)) :: (Jvm.Cond.methodLink "AsleepPassLaw" (135 : Nat) ({ cls := "AsleepPassModel", name := "mark", desc := "(II)I" } : Jvm.MethodName)) :: (Jvm.Cond.instanceMethod ({ cls := "AsleepPassModel", name := "mark", desc := "(II)I" } : Jvm.MethodName)) :: (Jvm.Cond.selects "AsleepPassModel" ({ cls := "AsleepPassModel", name := "mark", desc := "(II)I" } : Jvm.MethodName) ({ cls := "AsleepPassModel", name := "mark", desc := "(II)I" } : Jvm.MethodName)) :: (Jvm.Cond.code ({ cls := "AsleepPassModel", name := "mark", desc := "(II)I" } : Jvm.MethodName) prog_13_method_57_code (3 : Nat) (Option.some Jvm.ClassFile.FieldType.int)) :: (Jvm.Cond.methodLink "AsleepPassLaw" (139 : Nat) ({ cls := "AsleepPassModel", name := "wipe", desc := "(I)I" } : Jvm.MethodName)) :: (Jvm.Cond.instanceMethod ({ cls := "AsleepPassModel", name := "wipe", desc := "(I)I" } : Jvm.MethodName)) :: (Jvm.Cond.selects "AsleepPassModel" ({ cls := "AsleepPassModel", name := "wipe", desc := "(I)I" } : Jvm.MethodName) ({ cls := "AsleepPassModel", name := "wipe", desc := "(I)I" } : Jvm.MethodName)) :: (Jvm.Cond.code ({ cls := "AsleepPassModel", name := "wipe", desc := "(I)I" } : Jvm.MethodName) prog_13_method_58_code (3 : Nat) (Option.some Jvm.ClassFile.FieldType.int)) :: tE_6_1
set_option maxRecDepth 100000 in
theorem tE_6 : tables_1_6 = tE_6_0 := rfl
theorem sE_6_0 {w : Cond} (h : w ∈ tE_6_0) : w ∈ tables_1 := (List.mem_append_right _ (List.mem_append_right _ (List.mem_append_right _ (List.mem_append_right _ (List.mem_append_right _ (by rw [tE_6]; exact h))))))
theorem sE_6_1 {w : Cond} (h : w ∈ tE_6_1) : w ∈ tables_1 := sE_6_0 (mc16 h)
theorem sE_6_2 {w : Cond} (h : w ∈ tE_6_2) : w ∈ tables_1 := sE_6_1 (mc16 h)
theorem sE_6_3 {w : Cond} (h : w ∈ tE_6_3) : w ∈ tables_1 := sE_6_2 (mc16 h)
theorem sE_6_4 {w : Cond} (h : w ∈ tE_6_4) : w ∈ tables_1 := sE_6_3 (mc16 h)
theorem mTE {w : Cond} (h : w ∈ tables_1) (hg : goodWord w = true) : w ∈ GT := List.mem_filter.mpr ⟨List.mem_append_right _ h, hg⟩
theorem mNE {w : Cond} (h : w ∈ tables_1) (hg : isNest w = true) : w ∈ NT := List.mem_filter.mpr ⟨List.mem_append_right _ h, hg⟩
theorem wt_1 : (Jvm.Cond.initialized "AsleepPass") ∈ GT := mTE (sE_1_0 (mc1 List.mem_cons_self)) rfl
theorem wt_2 : (Jvm.Cond.initialized "AsleepPass$Reader") ∈ GT := mTE (sE_1_0 (mc2 List.mem_cons_self)) rfl
theorem wt_3 : (Jvm.Cond.initialized "AsleepPass$Tape") ∈ GT := mTE (sE_1_0 (mc3 List.mem_cons_self)) rfl
theorem wt_4 : (Jvm.Cond.initialized "AsleepPass$Way") ∈ GT := mTE (sE_1_0 (mc4 List.mem_cons_self)) rfl
theorem wt_5 : (Jvm.Cond.initialized "AsleepPass$Odds") ∈ GT := mTE (sE_1_0 (mc5 List.mem_cons_self)) rfl
theorem wt_6 : (Jvm.Cond.initialized "AsleepPass$Choice") ∈ GT := mTE (sE_1_0 (mc6 List.mem_cons_self)) rfl
theorem wt_7 : (Jvm.Cond.initialized "AsleepPass$Crossing") ∈ GT := mTE (sE_1_0 (mc7 List.mem_cons_self)) rfl
theorem wt_8 : (Jvm.Cond.initialized "AsleepPass$Learnt") ∈ GT := mTE (sE_1_0 (mc8 List.mem_cons_self)) rfl
theorem wt_9 : (Jvm.Cond.initialized "AsleepPass$Marked") ∈ GT := mTE (sE_1_0 (mc9 List.mem_cons_self)) rfl
theorem wt_10 : (Jvm.Cond.initialized "AsleepPass$Trails") ∈ GT := mTE (sE_1_0 (mc10 List.mem_cons_self)) rfl
theorem wt_11 : (Jvm.Cond.initialized "AsleepPass$Sheets") ∈ GT := mTE (sE_1_0 (mc11 List.mem_cons_self)) rfl
theorem wt_12 : (Jvm.Cond.initialized "AsleepPassModel") ∈ GT := mTE (sE_1_0 (mc12 List.mem_cons_self)) rfl
theorem wt_13 : (Jvm.Cond.initialized "java/lang/String") ∈ GT := mTE (sE_1_0 (mc13 List.mem_cons_self)) rfl
theorem wt_14 : (Jvm.Cond.initialized "java/lang/StringLatin1") ∈ GT := mTE (sE_1_0 (mc14 List.mem_cons_self)) rfl
theorem wt_15 : (Jvm.Cond.initialized "jdk/internal/util/Preconditions") ∈ GT := mTE (sE_1_0 (mc15 List.mem_cons_self)) rfl
theorem wt_17 : (Jvm.Cond.initialized "java/lang/Math") ∈ GT := mTE (sE_1_1 (mc1 List.mem_cons_self)) rfl
theorem wt_18 : (Jvm.Cond.initialized "java/lang/System") ∈ GT := mTE (sE_1_1 (mc2 List.mem_cons_self)) rfl
theorem wt_19 : (Jvm.Cond.initialized "java/lang/Integer") ∈ GT := mTE (sE_1_1 (mc3 List.mem_cons_self)) rfl
theorem wt_20 : (Jvm.Cond.classLink "AsleepPassLaw" (7 : Nat) "AsleepPass") ∈ GT := mTE (sE_1_1 (mc4 List.mem_cons_self)) rfl
theorem wt_21 : (Jvm.Cond.instantiable "AsleepPass" (14 : Nat)) ∈ GT := mTE (sE_1_1 (mc5 List.mem_cons_self)) rfl
theorem wt_22 : (Jvm.Cond.methodLink "AsleepPassLaw" (9 : Nat) ({ cls := "AsleepPass", name := "<init>", desc := "()V" } : Jvm.MethodName)) ∈ GT := mTE (sE_1_1 (mc6 List.mem_cons_self)) rfl
theorem wt_23 : (Jvm.Cond.instanceMethod ({ cls := "AsleepPass", name := "<init>", desc := "()V" } : Jvm.MethodName)) ∈ GT := mTE (sE_1_1 (mc7 List.mem_cons_self)) rfl
theorem wt_24 : (Jvm.Cond.code ({ cls := "AsleepPass", name := "<init>", desc := "()V" } : Jvm.MethodName) prog_1_method_1_code (2 : Nat) (Option.none : Option Jvm.ClassFile.FieldType)) ∈ GT := mTE (sE_1_1 (mc8 List.mem_cons_self)) rfl
theorem wt_25 : (Jvm.Cond.methodLink "AsleepPass" (1 : Nat) ({ cls := "java/lang/Object", name := "<init>", desc := "()V" } : Jvm.MethodName)) ∈ GT := mTE (sE_1_1 (mc9 List.mem_cons_self)) rfl
theorem wt_26 : (Jvm.Cond.instanceMethod ({ cls := "java/lang/Object", name := "<init>", desc := "()V" } : Jvm.MethodName)) ∈ GT := mTE (sE_1_1 (mc10 List.mem_cons_self)) rfl
theorem wt_27 : (Jvm.Cond.code ({ cls := "java/lang/Object", name := "<init>", desc := "()V" } : Jvm.MethodName) object_method_1_code (1 : Nat) (Option.none : Option Jvm.ClassFile.FieldType)) ∈ GT := mTE (sE_1_1 (mc11 List.mem_cons_self)) rfl
theorem wt_28 : (Jvm.Cond.classLink "AsleepPass" (7 : Nat) "AsleepPass$Reader") ∈ GT := mTE (sE_1_1 (mc12 List.mem_cons_self)) rfl
theorem wt_29 : (Jvm.Cond.instantiable "AsleepPass$Reader" (12 : Nat)) ∈ GT := mTE (sE_1_1 (mc13 List.mem_cons_self)) rfl
theorem wn_30 : (Jvm.Cond.methodLinkNest "AsleepPass" (9 : Nat) ({ cls := "AsleepPass$Reader", name := "<init>", desc := "()V" } : Jvm.MethodName) "AsleepPass") ∈ NT := mNE (sE_1_1 (mc14 List.mem_cons_self)) rfl
theorem wt_31 : (Jvm.Cond.instanceMethod ({ cls := "AsleepPass$Reader", name := "<init>", desc := "()V" } : Jvm.MethodName)) ∈ GT := mTE (sE_1_1 (mc15 List.mem_cons_self)) rfl
theorem wt_32 : (Jvm.Cond.code ({ cls := "AsleepPass$Reader", name := "<init>", desc := "()V" } : Jvm.MethodName) prog_7_method_1_code (1 : Nat) (Option.none : Option Jvm.ClassFile.FieldType)) ∈ GT := mTE (sE_1_2 List.mem_cons_self) rfl
theorem wt_33 : (Jvm.Cond.methodLink "AsleepPass$Reader" (3 : Nat) ({ cls := "java/lang/Object", name := "<init>", desc := "()V" } : Jvm.MethodName)) ∈ GT := mTE (sE_1_2 (mc1 List.mem_cons_self)) rfl
theorem wt_34 : (Jvm.Cond.classLink "AsleepPass$Reader" (9 : Nat) "AsleepPass$Tape") ∈ GT := mTE (sE_1_2 (mc2 List.mem_cons_self)) rfl
theorem wt_35 : (Jvm.Cond.instantiable "AsleepPass$Tape" (2 : Nat)) ∈ GT := mTE (sE_1_2 (mc3 List.mem_cons_self)) rfl
theorem wn_36 : (Jvm.Cond.methodLinkNest "AsleepPass$Reader" (11 : Nat) ({ cls := "AsleepPass$Tape", name := "<init>", desc := "()V" } : Jvm.MethodName) "AsleepPass") ∈ NT := mNE (sE_1_2 (mc4 List.mem_cons_self)) rfl
theorem wt_37 : (Jvm.Cond.instanceMethod ({ cls := "AsleepPass$Tape", name := "<init>", desc := "()V" } : Jvm.MethodName)) ∈ GT := mTE (sE_1_2 (mc5 List.mem_cons_self)) rfl
theorem wt_38 : (Jvm.Cond.code ({ cls := "AsleepPass$Tape", name := "<init>", desc := "()V" } : Jvm.MethodName) prog_9_method_1_code (1 : Nat) (Option.none : Option Jvm.ClassFile.FieldType)) ∈ GT := mTE (sE_1_2 (mc6 List.mem_cons_self)) rfl
theorem wt_39 : (Jvm.Cond.methodLink "AsleepPass$Tape" (1 : Nat) ({ cls := "java/lang/Object", name := "<init>", desc := "()V" } : Jvm.MethodName)) ∈ GT := mTE (sE_1_2 (mc7 List.mem_cons_self)) rfl
theorem wt_40 : (Jvm.Cond.fieldLink "AsleepPass$Tape" (13 : Nat) "AsleepPass$Tape" "length" "I") ∈ GT := mTE (sE_1_2 (mc8 List.mem_cons_self)) rfl
theorem wn_41 : (Jvm.Cond.fieldLinkNest "AsleepPass$Reader" (32 : Nat) "AsleepPass$Tape" "length" "I" "AsleepPass") ∈ NT := mNE (sE_1_2 (mc9 List.mem_cons_self)) rfl
theorem wn_42 : (Jvm.Cond.fieldLinkNest "AsleepPass" (93 : Nat) "AsleepPass$Tape" "length" "I" "AsleepPass") ∈ NT := mNE (sE_1_2 (mc10 List.mem_cons_self)) rfl
theorem wt_43 : (Jvm.Cond.fieldLink "AsleepPass$Tape" (9 : Nat) "AsleepPass$Tape" "bytes" "[I") ∈ GT := mTE (sE_1_2 (mc11 List.mem_cons_self)) rfl
theorem wt_44 : (Jvm.Cond.lays "AsleepPass$Tape" "AsleepPass$Tape" "length" "I") ∈ GT := mTE (sE_1_2 (mc12 List.mem_cons_self)) rfl
theorem wt_46 : (Jvm.Cond.laysFinal "AsleepPass$Tape" "AsleepPass$Tape" "bytes" "[I") ∈ GT := mTE (sE_1_2 (mc14 List.mem_cons_self)) rfl
theorem wt_49 : (Jvm.Cond.arrayClass Jvm.ClassFile.FieldType.int) ∈ GT := mTE (sE_1_3 (mc1 List.mem_cons_self)) rfl
theorem wt_50 : (Jvm.Cond.classLink "AsleepPass$Reader" (18 : Nat) "AsleepPass$Way") ∈ GT := mTE (sE_1_3 (mc2 List.mem_cons_self)) rfl
theorem wt_51 : (Jvm.Cond.instantiable "AsleepPass$Way" (9 : Nat)) ∈ GT := mTE (sE_1_3 (mc3 List.mem_cons_self)) rfl
theorem wn_52 : (Jvm.Cond.methodLinkNest "AsleepPass$Reader" (20 : Nat) ({ cls := "AsleepPass$Way", name := "<init>", desc := "()V" } : Jvm.MethodName) "AsleepPass") ∈ NT := mNE (sE_1_3 (mc4 List.mem_cons_self)) rfl
theorem wt_53 : (Jvm.Cond.instanceMethod ({ cls := "AsleepPass$Way", name := "<init>", desc := "()V" } : Jvm.MethodName)) ∈ GT := mTE (sE_1_3 (mc5 List.mem_cons_self)) rfl
theorem wt_54 : (Jvm.Cond.code ({ cls := "AsleepPass$Way", name := "<init>", desc := "()V" } : Jvm.MethodName) prog_11_method_1_code (1 : Nat) (Option.none : Option Jvm.ClassFile.FieldType)) ∈ GT := mTE (sE_1_3 (mc6 List.mem_cons_self)) rfl
theorem wt_55 : (Jvm.Cond.methodLink "AsleepPass$Way" (3 : Nat) ({ cls := "java/lang/Object", name := "<init>", desc := "()V" } : Jvm.MethodName)) ∈ GT := mTE (sE_1_3 (mc7 List.mem_cons_self)) rfl
theorem wt_56 : (Jvm.Cond.fieldLink "AsleepPass$Way" (34 : Nat) "AsleepPass$Way" "stretches" "I") ∈ GT := mTE (sE_1_3 (mc8 List.mem_cons_self)) rfl
theorem wn_57 : (Jvm.Cond.fieldLinkNest "AsleepPass$Crossing" (26 : Nat) "AsleepPass$Way" "stretches" "I" "AsleepPass") ∈ NT := mNE (sE_1_3 (mc9 List.mem_cons_self)) rfl
theorem wn_58 : (Jvm.Cond.fieldLinkNest "AsleepPass$Trails" (25 : Nat) "AsleepPass$Way" "stretches" "I" "AsleepPass") ∈ NT := mNE (sE_1_3 (mc10 List.mem_cons_self)) rfl
theorem wn_59 : (Jvm.Cond.fieldLinkNest "AsleepPass$Choice" (25 : Nat) "AsleepPass$Way" "stretches" "I" "AsleepPass") ∈ NT := mNE (sE_1_3 (mc11 List.mem_cons_self)) rfl
theorem wn_60 : (Jvm.Cond.fieldLinkNest "AsleepPass" (123 : Nat) "AsleepPass$Way" "stretches" "I" "AsleepPass") ∈ NT := mNE (sE_1_3 (mc12 List.mem_cons_self)) rfl
theorem wn_61 : (Jvm.Cond.fieldLinkNest "AsleepPass$Reader" (129 : Nat) "AsleepPass$Way" "stretches" "I" "AsleepPass") ∈ NT := mNE (sE_1_3 (mc13 List.mem_cons_self)) rfl
theorem wt_62 : (Jvm.Cond.fieldLink "AsleepPass$Way" (37 : Nat) "AsleepPass$Way" "bearers" "I") ∈ GT := mTE (sE_1_3 (mc14 List.mem_cons_self)) rfl
theorem wn_63 : (Jvm.Cond.fieldLinkNest "AsleepPass$Choice" (37 : Nat) "AsleepPass$Way" "bearers" "I" "AsleepPass") ∈ NT := mNE (sE_1_3 (mc15 List.mem_cons_self)) rfl
theorem wn_64 : (Jvm.Cond.fieldLinkNest "AsleepPass" (126 : Nat) "AsleepPass$Way" "bearers" "I" "AsleepPass") ∈ NT := mNE (sE_1_4 List.mem_cons_self) rfl
theorem wn_65 : (Jvm.Cond.fieldLinkNest "AsleepPass$Reader" (136 : Nat) "AsleepPass$Way" "bearers" "I" "AsleepPass") ∈ NT := mNE (sE_1_4 (mc1 List.mem_cons_self)) rfl
theorem wt_66 : (Jvm.Cond.fieldLink "AsleepPass$Way" (9 : Nat) "AsleepPass$Way" "startDepth" "I") ∈ GT := mTE (sE_1_4 (mc2 List.mem_cons_self)) rfl
theorem wn_67 : (Jvm.Cond.fieldLinkNest "AsleepPass$Odds" (22 : Nat) "AsleepPass$Way" "startDepth" "I" "AsleepPass") ∈ NT := mNE (sE_1_4 (mc3 List.mem_cons_self)) rfl
theorem wn_68 : (Jvm.Cond.fieldLinkNest "AsleepPass$Crossing" (9 : Nat) "AsleepPass$Way" "startDepth" "I" "AsleepPass") ∈ NT := mNE (sE_1_4 (mc4 List.mem_cons_self)) rfl
theorem wn_69 : (Jvm.Cond.fieldLinkNest "AsleepPass$Trails" (19 : Nat) "AsleepPass$Way" "startDepth" "I" "AsleepPass") ∈ NT := mNE (sE_1_4 (mc5 List.mem_cons_self)) rfl
theorem wn_70 : (Jvm.Cond.fieldLinkNest "AsleepPass$Choice" (59 : Nat) "AsleepPass$Way" "startDepth" "I" "AsleepPass") ∈ NT := mNE (sE_1_4 (mc6 List.mem_cons_self)) rfl
theorem wn_71 : (Jvm.Cond.fieldLinkNest "AsleepPass" (129 : Nat) "AsleepPass$Way" "startDepth" "I" "AsleepPass") ∈ NT := mNE (sE_1_4 (mc7 List.mem_cons_self)) rfl
theorem wn_72 : (Jvm.Cond.fieldLinkNest "AsleepPass$Reader" (123 : Nat) "AsleepPass$Way" "startDepth" "I" "AsleepPass") ∈ NT := mNE (sE_1_4 (mc8 List.mem_cons_self)) rfl
theorem wt_73 : (Jvm.Cond.fieldLink "AsleepPass$Way" (15 : Nat) "AsleepPass$Way" "noises" "[I") ∈ GT := mTE (sE_1_4 (mc9 List.mem_cons_self)) rfl
theorem wn_74 : (Jvm.Cond.fieldLinkNest "AsleepPass" (136 : Nat) "AsleepPass$Way" "noises" "[I" "AsleepPass") ∈ NT := mNE (sE_1_4 (mc10 List.mem_cons_self)) rfl
theorem wt_75 : (Jvm.Cond.fieldLink "AsleepPass$Way" (19 : Nat) "AsleepPass$Way" "colds" "[I") ∈ GT := mTE (sE_1_4 (mc11 List.mem_cons_self)) rfl
theorem wn_76 : (Jvm.Cond.fieldLinkNest "AsleepPass" (140 : Nat) "AsleepPass$Way" "colds" "[I" "AsleepPass") ∈ NT := mNE (sE_1_4 (mc12 List.mem_cons_self)) rfl
theorem wt_77 : (Jvm.Cond.fieldLink "AsleepPass$Way" (22 : Nat) "AsleepPass$Way" "order" "[I") ∈ GT := mTE (sE_1_4 (mc13 List.mem_cons_self)) rfl
theorem wn_78 : (Jvm.Cond.fieldLinkNest "AsleepPass" (143 : Nat) "AsleepPass$Way" "order" "[I" "AsleepPass") ∈ NT := mNE (sE_1_4 (mc14 List.mem_cons_self)) rfl
theorem wn_79 : (Jvm.Cond.fieldLinkNest "AsleepPass$Reader" (146 : Nat) "AsleepPass$Way" "order" "[I" "AsleepPass") ∈ NT := mNE (sE_1_4 (mc15 List.mem_cons_self)) rfl
theorem wt_80 : (Jvm.Cond.fieldLink "AsleepPass$Way" (25 : Nat) "AsleepPass$Way" "kinds" "[I") ∈ GT := mTE (sE_1_5 List.mem_cons_self) rfl
theorem wn_81 : (Jvm.Cond.fieldLinkNest "AsleepPass" (149 : Nat) "AsleepPass$Way" "kinds" "[I" "AsleepPass") ∈ NT := mNE (sE_1_5 (mc1 List.mem_cons_self)) rfl
theorem wt_82 : (Jvm.Cond.fieldLink "AsleepPass$Way" (28 : Nat) "AsleepPass$Way" "paces" "[I") ∈ GT := mTE (sE_1_5 (mc2 List.mem_cons_self)) rfl
theorem wn_83 : (Jvm.Cond.fieldLinkNest "AsleepPass" (152 : Nat) "AsleepPass$Way" "paces" "[I" "AsleepPass") ∈ NT := mNE (sE_1_5 (mc3 List.mem_cons_self)) rfl
theorem wt_84 : (Jvm.Cond.fieldLink "AsleepPass$Way" (31 : Nat) "AsleepPass$Way" "warmths" "[I") ∈ GT := mTE (sE_1_5 (mc4 List.mem_cons_self)) rfl
theorem wn_85 : (Jvm.Cond.fieldLinkNest "AsleepPass" (155 : Nat) "AsleepPass$Way" "warmths" "[I" "AsleepPass") ∈ NT := mNE (sE_1_5 (mc5 List.mem_cons_self)) rfl
theorem wt_86 : (Jvm.Cond.lays "AsleepPass$Way" "AsleepPass$Way" "stretches" "I") ∈ GT := mTE (sE_1_5 (mc6 List.mem_cons_self)) rfl
theorem wt_88 : (Jvm.Cond.lays "AsleepPass$Way" "AsleepPass$Way" "bearers" "I") ∈ GT := mTE (sE_1_5 (mc8 List.mem_cons_self)) rfl
theorem wt_90 : (Jvm.Cond.lays "AsleepPass$Way" "AsleepPass$Way" "startDepth" "I") ∈ GT := mTE (sE_1_5 (mc10 List.mem_cons_self)) rfl
theorem wt_92 : (Jvm.Cond.laysFinal "AsleepPass$Way" "AsleepPass$Way" "noises" "[I") ∈ GT := mTE (sE_1_5 (mc12 List.mem_cons_self)) rfl
theorem wt_94 : (Jvm.Cond.laysFinal "AsleepPass$Way" "AsleepPass$Way" "colds" "[I") ∈ GT := mTE (sE_1_5 (mc14 List.mem_cons_self)) rfl
theorem wt_96 : (Jvm.Cond.laysFinal "AsleepPass$Way" "AsleepPass$Way" "order" "[I") ∈ GT := mTE (sE_1_6 List.mem_cons_self) rfl
theorem wt_98 : (Jvm.Cond.laysFinal "AsleepPass$Way" "AsleepPass$Way" "kinds" "[I") ∈ GT := mTE (sE_1_6 (mc2 List.mem_cons_self)) rfl
theorem wt_100 : (Jvm.Cond.laysFinal "AsleepPass$Way" "AsleepPass$Way" "paces" "[I") ∈ GT := mTE (sE_1_6 (mc4 List.mem_cons_self)) rfl
theorem wt_102 : (Jvm.Cond.laysFinal "AsleepPass$Way" "AsleepPass$Way" "warmths" "[I") ∈ GT := mTE (sE_1_6 (mc6 List.mem_cons_self)) rfl
theorem wt_105 : (Jvm.Cond.fieldLink "AsleepPass$Reader" (12 : Nat) "AsleepPass$Reader" "tape" "LAsleepPass$Tape;") ∈ GT := mTE (sE_1_6 (mc9 List.mem_cons_self)) rfl
theorem wn_106 : (Jvm.Cond.fieldLinkNest "AsleepPass" (83 : Nat) "AsleepPass$Reader" "tape" "LAsleepPass$Tape;" "AsleepPass") ∈ NT := mNE (sE_1_6 (mc10 List.mem_cons_self)) rfl
theorem wt_107 : (Jvm.Cond.fieldLink "AsleepPass$Reader" (21 : Nat) "AsleepPass$Reader" "told" "LAsleepPass$Way;") ∈ GT := mTE (sE_1_6 (mc11 List.mem_cons_self)) rfl
theorem wn_108 : (Jvm.Cond.fieldLinkNest "AsleepPass" (109 : Nat) "AsleepPass$Reader" "told" "LAsleepPass$Way;" "AsleepPass") ∈ NT := mNE (sE_1_6 (mc12 List.mem_cons_self)) rfl
theorem wt_109 : (Jvm.Cond.fieldLink "AsleepPass$Reader" (36 : Nat) "AsleepPass$Reader" "found" "I") ∈ GT := mTE (sE_1_6 (mc13 List.mem_cons_self)) rfl
theorem wn_110 : (Jvm.Cond.fieldLinkNest "AsleepPass" (100 : Nat) "AsleepPass$Reader" "found" "I" "AsleepPass") ∈ NT := mNE (sE_1_6 (mc14 List.mem_cons_self)) rfl
theorem wt_111 : (Jvm.Cond.fieldLink "AsleepPass$Reader" (54 : Nat) "AsleepPass$Reader" "place" "I") ∈ GT := mTE (sE_1_6 (mc15 List.mem_cons_self)) rfl
theorem wn_112 : (Jvm.Cond.fieldLinkNest "AsleepPass" (106 : Nat) "AsleepPass$Reader" "place" "I" "AsleepPass") ∈ NT := mNE (sE_1_7 List.mem_cons_self) rfl
theorem wt_113 : (Jvm.Cond.fieldLink "AsleepPass$Reader" (45 : Nat) "AsleepPass$Reader" "lines" "I") ∈ GT := mTE (sE_1_7 (mc1 List.mem_cons_self)) rfl
theorem wn_114 : (Jvm.Cond.fieldLinkNest "AsleepPass" (120 : Nat) "AsleepPass$Reader" "lines" "I" "AsleepPass") ∈ NT := mNE (sE_1_7 (mc2 List.mem_cons_self)) rfl
theorem wt_115 : (Jvm.Cond.fieldLink "AsleepPass$Reader" (39 : Nat) "AsleepPass$Reader" "token" "I") ∈ GT := mTE (sE_1_7 (mc3 List.mem_cons_self)) rfl
theorem wt_116 : (Jvm.Cond.fieldLink "AsleepPass$Reader" (77 : Nat) "AsleepPass$Reader" "first" "I") ∈ GT := mTE (sE_1_7 (mc4 List.mem_cons_self)) rfl
theorem wt_117 : (Jvm.Cond.fieldLink "AsleepPass$Reader" (57 : Nat) "AsleepPass$Reader" "past" "I") ∈ GT := mTE (sE_1_7 (mc5 List.mem_cons_self)) rfl
theorem wt_118 : (Jvm.Cond.fieldLink "AsleepPass$Reader" (60 : Nat) "AsleepPass$Reader" "startTold" "Z") ∈ GT := mTE (sE_1_7 (mc6 List.mem_cons_self)) rfl
theorem wt_119 : (Jvm.Cond.fieldLink "AsleepPass$Reader" (64 : Nat) "AsleepPass$Reader" "carried" "I") ∈ GT := mTE (sE_1_7 (mc7 List.mem_cons_self)) rfl
theorem wt_120 : (Jvm.Cond.fieldLink "AsleepPass$Reader" (67 : Nat) "AsleepPass$Reader" "furthestStretch" "I") ∈ GT := mTE (sE_1_7 (mc8 List.mem_cons_self)) rfl
theorem wt_121 : (Jvm.Cond.fieldLink "AsleepPass$Reader" (70 : Nat) "AsleepPass$Reader" "furthestBearer" "I") ∈ GT := mTE (sE_1_7 (mc9 List.mem_cons_self)) rfl
theorem wt_122 : (Jvm.Cond.laysFinal "AsleepPass$Reader" "AsleepPass$Reader" "tape" "LAsleepPass$Tape;") ∈ GT := mTE (sE_1_7 (mc10 List.mem_cons_self)) rfl
theorem wt_124 : (Jvm.Cond.laysFinal "AsleepPass$Reader" "AsleepPass$Reader" "told" "LAsleepPass$Way;") ∈ GT := mTE (sE_1_7 (mc12 List.mem_cons_self)) rfl
theorem wt_126 : (Jvm.Cond.lays "AsleepPass$Reader" "AsleepPass$Reader" "found" "I") ∈ GT := mTE (sE_1_7 (mc14 List.mem_cons_self)) rfl
theorem wt_128 : (Jvm.Cond.lays "AsleepPass$Reader" "AsleepPass$Reader" "place" "I") ∈ GT := mTE (sE_1_8 List.mem_cons_self) rfl
theorem wt_130 : (Jvm.Cond.lays "AsleepPass$Reader" "AsleepPass$Reader" "lines" "I") ∈ GT := mTE (sE_1_8 (mc2 List.mem_cons_self)) rfl
theorem wt_132 : (Jvm.Cond.lays "AsleepPass$Reader" "AsleepPass$Reader" "token" "I") ∈ GT := mTE (sE_1_8 (mc4 List.mem_cons_self)) rfl
theorem wt_134 : (Jvm.Cond.lays "AsleepPass$Reader" "AsleepPass$Reader" "first" "I") ∈ GT := mTE (sE_1_8 (mc6 List.mem_cons_self)) rfl
theorem wt_136 : (Jvm.Cond.lays "AsleepPass$Reader" "AsleepPass$Reader" "past" "I") ∈ GT := mTE (sE_1_8 (mc8 List.mem_cons_self)) rfl
theorem wt_138 : (Jvm.Cond.lays "AsleepPass$Reader" "AsleepPass$Reader" "startTold" "Z") ∈ GT := mTE (sE_1_8 (mc10 List.mem_cons_self)) rfl
theorem wt_140 : (Jvm.Cond.lays "AsleepPass$Reader" "AsleepPass$Reader" "carried" "I") ∈ GT := mTE (sE_1_8 (mc12 List.mem_cons_self)) rfl
theorem wt_142 : (Jvm.Cond.lays "AsleepPass$Reader" "AsleepPass$Reader" "furthestStretch" "I") ∈ GT := mTE (sE_1_8 (mc14 List.mem_cons_self)) rfl
theorem wt_144 : (Jvm.Cond.lays "AsleepPass$Reader" "AsleepPass$Reader" "furthestBearer" "I") ∈ GT := mTE (sE_1_9 List.mem_cons_self) rfl
theorem wt_147 : (Jvm.Cond.classLink "AsleepPass" (16 : Nat) "AsleepPass$Way") ∈ GT := mTE (sE_1_9 (mc3 List.mem_cons_self)) rfl
theorem wn_148 : (Jvm.Cond.methodLinkNest "AsleepPass" (18 : Nat) ({ cls := "AsleepPass$Way", name := "<init>", desc := "()V" } : Jvm.MethodName) "AsleepPass") ∈ NT := mNE (sE_1_9 (mc4 List.mem_cons_self)) rfl
theorem wt_150 : (Jvm.Cond.classLink "AsleepPass" (34 : Nat) "AsleepPass$Odds") ∈ GT := mTE (sE_1_9 (mc6 List.mem_cons_self)) rfl
theorem wt_151 : (Jvm.Cond.instantiable "AsleepPass$Odds" (3 : Nat)) ∈ GT := mTE (sE_1_9 (mc7 List.mem_cons_self)) rfl
theorem wn_152 : (Jvm.Cond.methodLinkNest "AsleepPass" (36 : Nat) ({ cls := "AsleepPass$Odds", name := "<init>", desc := "()V" } : Jvm.MethodName) "AsleepPass") ∈ NT := mNE (sE_1_9 (mc8 List.mem_cons_self)) rfl
theorem wt_153 : (Jvm.Cond.instanceMethod ({ cls := "AsleepPass$Odds", name := "<init>", desc := "()V" } : Jvm.MethodName)) ∈ GT := mTE (sE_1_9 (mc9 List.mem_cons_self)) rfl
theorem wt_154 : (Jvm.Cond.code ({ cls := "AsleepPass$Odds", name := "<init>", desc := "()V" } : Jvm.MethodName) prog_6_method_1_code (1 : Nat) (Option.none : Option Jvm.ClassFile.FieldType)) ∈ GT := mTE (sE_1_9 (mc10 List.mem_cons_self)) rfl
theorem wt_155 : (Jvm.Cond.methodLink "AsleepPass$Odds" (3 : Nat) ({ cls := "java/lang/Object", name := "<init>", desc := "()V" } : Jvm.MethodName)) ∈ GT := mTE (sE_1_9 (mc11 List.mem_cons_self)) rfl
theorem wt_156 : (Jvm.Cond.fieldLink "AsleepPass$Odds" (9 : Nat) "AsleepPass$Odds" "whole" "J") ∈ GT := mTE (sE_1_9 (mc12 List.mem_cons_self)) rfl
theorem wn_157 : (Jvm.Cond.fieldLinkNest "AsleepPass" (179 : Nat) "AsleepPass$Odds" "whole" "J" "AsleepPass") ∈ NT := mNE (sE_1_9 (mc13 List.mem_cons_self)) rfl
theorem wt_158 : (Jvm.Cond.fieldLink "AsleepPass$Odds" (15 : Nat) "AsleepPass$Odds" "shares" "[J") ∈ GT := mTE (sE_1_9 (mc14 List.mem_cons_self)) rfl
theorem wn_159 : (Jvm.Cond.fieldLinkNest "AsleepPass" (194 : Nat) "AsleepPass$Odds" "shares" "[J" "AsleepPass") ∈ NT := mNE (sE_1_9 (mc15 List.mem_cons_self)) rfl
theorem wt_160 : (Jvm.Cond.fieldLink "AsleepPass$Odds" (19 : Nat) "AsleepPass$Odds" "ahead" "[J") ∈ GT := mTE (sE_1_10 List.mem_cons_self) rfl
theorem wt_161 : (Jvm.Cond.lays "AsleepPass$Odds" "AsleepPass$Odds" "whole" "J") ∈ GT := mTE (sE_1_10 (mc1 List.mem_cons_self)) rfl
theorem wt_163 : (Jvm.Cond.laysFinal "AsleepPass$Odds" "AsleepPass$Odds" "shares" "[J") ∈ GT := mTE (sE_1_10 (mc3 List.mem_cons_self)) rfl
theorem wt_165 : (Jvm.Cond.laysFinal "AsleepPass$Odds" "AsleepPass$Odds" "ahead" "[J") ∈ GT := mTE (sE_1_10 (mc5 List.mem_cons_self)) rfl
theorem wt_168 : (Jvm.Cond.arrayClass Jvm.ClassFile.FieldType.boolean) ∈ GT := mTE (sE_1_10 (mc8 List.mem_cons_self)) rfl
theorem wt_169 : (Jvm.Cond.arrayClass Jvm.ClassFile.FieldType.long) ∈ GT := mTE (sE_1_10 (mc9 List.mem_cons_self)) rfl
theorem wt_170 : (Jvm.Cond.classLink "AsleepPass" (41 : Nat) "AsleepPass$Choice") ∈ GT := mTE (sE_1_10 (mc10 List.mem_cons_self)) rfl
theorem wt_171 : (Jvm.Cond.instantiable "AsleepPass$Choice" (3 : Nat)) ∈ GT := mTE (sE_1_10 (mc11 List.mem_cons_self)) rfl
theorem wn_172 : (Jvm.Cond.methodLinkNest "AsleepPass" (43 : Nat) ({ cls := "AsleepPass$Choice", name := "<init>", desc := "()V" } : Jvm.MethodName) "AsleepPass") ∈ NT := mNE (sE_1_10 (mc12 List.mem_cons_self)) rfl
theorem wt_173 : (Jvm.Cond.instanceMethod ({ cls := "AsleepPass$Choice", name := "<init>", desc := "()V" } : Jvm.MethodName)) ∈ GT := mTE (sE_1_10 (mc13 List.mem_cons_self)) rfl
theorem wt_174 : (Jvm.Cond.code ({ cls := "AsleepPass$Choice", name := "<init>", desc := "()V" } : Jvm.MethodName) prog_2_method_1_code (1 : Nat) (Option.none : Option Jvm.ClassFile.FieldType)) ∈ GT := mTE (sE_1_10 (mc14 List.mem_cons_self)) rfl
theorem wt_175 : (Jvm.Cond.methodLink "AsleepPass$Choice" (3 : Nat) ({ cls := "java/lang/Object", name := "<init>", desc := "()V" } : Jvm.MethodName)) ∈ GT := mTE (sE_1_10 (mc15 List.mem_cons_self)) rfl
theorem wt_176 : (Jvm.Cond.classLink "AsleepPass$Choice" (15 : Nat) "[[J") ∈ GT := mTE (sE_1_11 List.mem_cons_self) rfl
theorem wt_178 : (Jvm.Cond.classLink "AsleepPass$Choice" (20 : Nat) "[[I") ∈ GT := mTE (sE_1_11 (mc2 List.mem_cons_self)) rfl
theorem wt_180 : (Jvm.Cond.fieldLink "AsleepPass$Choice" (9 : Nat) "AsleepPass$Choice" "whole" "J") ∈ GT := mTE (sE_1_11 (mc4 List.mem_cons_self)) rfl
theorem wn_181 : (Jvm.Cond.fieldLinkNest "AsleepPass" (206 : Nat) "AsleepPass$Choice" "whole" "J" "AsleepPass") ∈ NT := mNE (sE_1_11 (mc5 List.mem_cons_self)) rfl
theorem wt_182 : (Jvm.Cond.fieldLink "AsleepPass$Choice" (17 : Nat) "AsleepPass$Choice" "waking" "[[J") ∈ GT := mTE (sE_1_11 (mc6 List.mem_cons_self)) rfl
theorem wt_183 : (Jvm.Cond.fieldLink "AsleepPass$Choice" (22 : Nat) "AsleepPass$Choice" "chosen" "[[I") ∈ GT := mTE (sE_1_11 (mc7 List.mem_cons_self)) rfl
theorem wn_184 : (Jvm.Cond.fieldLinkNest "AsleepPass" (207 : Nat) "AsleepPass$Choice" "chosen" "[[I" "AsleepPass") ∈ NT := mNE (sE_1_11 (mc8 List.mem_cons_self)) rfl
theorem wt_185 : (Jvm.Cond.lays "AsleepPass$Choice" "AsleepPass$Choice" "whole" "J") ∈ GT := mTE (sE_1_11 (mc9 List.mem_cons_self)) rfl
theorem wt_187 : (Jvm.Cond.laysFinal "AsleepPass$Choice" "AsleepPass$Choice" "waking" "[[J") ∈ GT := mTE (sE_1_11 (mc11 List.mem_cons_self)) rfl
theorem wt_189 : (Jvm.Cond.laysFinal "AsleepPass$Choice" "AsleepPass$Choice" "chosen" "[[I") ∈ GT := mTE (sE_1_11 (mc13 List.mem_cons_self)) rfl
theorem wt_192 : (Jvm.Cond.classLink "AsleepPass" (48 : Nat) "AsleepPass$Crossing") ∈ GT := mTE (sE_1_12 List.mem_cons_self) rfl
theorem wt_193 : (Jvm.Cond.instantiable "AsleepPass$Crossing" (3 : Nat)) ∈ GT := mTE (sE_1_12 (mc1 List.mem_cons_self)) rfl
theorem wn_194 : (Jvm.Cond.methodLinkNest "AsleepPass" (50 : Nat) ({ cls := "AsleepPass$Crossing", name := "<init>", desc := "()V" } : Jvm.MethodName) "AsleepPass") ∈ NT := mNE (sE_1_12 (mc2 List.mem_cons_self)) rfl
theorem wt_195 : (Jvm.Cond.instanceMethod ({ cls := "AsleepPass$Crossing", name := "<init>", desc := "()V" } : Jvm.MethodName)) ∈ GT := mTE (sE_1_12 (mc3 List.mem_cons_self)) rfl
theorem wt_196 : (Jvm.Cond.code ({ cls := "AsleepPass$Crossing", name := "<init>", desc := "()V" } : Jvm.MethodName) prog_3_method_1_code (1 : Nat) (Option.none : Option Jvm.ClassFile.FieldType)) ∈ GT := mTE (sE_1_12 (mc4 List.mem_cons_self)) rfl
theorem wt_197 : (Jvm.Cond.methodLink "AsleepPass$Crossing" (3 : Nat) ({ cls := "java/lang/Object", name := "<init>", desc := "()V" } : Jvm.MethodName)) ∈ GT := mTE (sE_1_12 (mc5 List.mem_cons_self)) rfl
theorem wt_198 : (Jvm.Cond.fieldLink "AsleepPass$Crossing" (15 : Nat) "AsleepPass$Crossing" "depthNow" "I") ∈ GT := mTE (sE_1_12 (mc6 List.mem_cons_self)) rfl
theorem wn_199 : (Jvm.Cond.fieldLinkNest "AsleepPass" (237 : Nat) "AsleepPass$Crossing" "depthNow" "I" "AsleepPass") ∈ NT := mNE (sE_1_12 (mc7 List.mem_cons_self)) rfl
theorem wt_200 : (Jvm.Cond.fieldLink "AsleepPass$Crossing" (20 : Nat) "AsleepPass$Crossing" "falls" "I") ∈ GT := mTE (sE_1_12 (mc8 List.mem_cons_self)) rfl
theorem wn_201 : (Jvm.Cond.fieldLinkNest "AsleepPass" (240 : Nat) "AsleepPass$Crossing" "falls" "I" "AsleepPass") ∈ NT := mNE (sE_1_12 (mc9 List.mem_cons_self)) rfl
theorem wt_202 : (Jvm.Cond.fieldLink "AsleepPass$Crossing" (23 : Nat) "AsleepPass$Crossing" "wokeOn" "I") ∈ GT := mTE (sE_1_12 (mc10 List.mem_cons_self)) rfl
theorem wn_203 : (Jvm.Cond.fieldLinkNest "AsleepPass" (243 : Nat) "AsleepPass$Crossing" "wokeOn" "I" "AsleepPass") ∈ NT := mNE (sE_1_12 (mc11 List.mem_cons_self)) rfl
theorem wt_204 : (Jvm.Cond.lays "AsleepPass$Crossing" "AsleepPass$Crossing" "depthNow" "I") ∈ GT := mTE (sE_1_12 (mc12 List.mem_cons_self)) rfl
theorem wt_206 : (Jvm.Cond.lays "AsleepPass$Crossing" "AsleepPass$Crossing" "falls" "I") ∈ GT := mTE (sE_1_12 (mc14 List.mem_cons_self)) rfl
theorem wt_208 : (Jvm.Cond.lays "AsleepPass$Crossing" "AsleepPass$Crossing" "wokeOn" "I") ∈ GT := mTE (sE_1_13 List.mem_cons_self) rfl
theorem wt_211 : (Jvm.Cond.classLink "AsleepPass" (55 : Nat) "AsleepPass$Learnt") ∈ GT := mTE (sE_1_13 (mc3 List.mem_cons_self)) rfl
theorem wt_212 : (Jvm.Cond.instantiable "AsleepPass$Learnt" (5 : Nat)) ∈ GT := mTE (sE_1_13 (mc4 List.mem_cons_self)) rfl
theorem wn_213 : (Jvm.Cond.methodLinkNest "AsleepPass" (57 : Nat) ({ cls := "AsleepPass$Learnt", name := "<init>", desc := "()V" } : Jvm.MethodName) "AsleepPass") ∈ NT := mNE (sE_1_13 (mc5 List.mem_cons_self)) rfl
theorem wt_214 : (Jvm.Cond.instanceMethod ({ cls := "AsleepPass$Learnt", name := "<init>", desc := "()V" } : Jvm.MethodName)) ∈ GT := mTE (sE_1_13 (mc6 List.mem_cons_self)) rfl
theorem wt_215 : (Jvm.Cond.code ({ cls := "AsleepPass$Learnt", name := "<init>", desc := "()V" } : Jvm.MethodName) prog_4_method_1_code (1 : Nat) (Option.none : Option Jvm.ClassFile.FieldType)) ∈ GT := mTE (sE_1_13 (mc7 List.mem_cons_self)) rfl
theorem wt_216 : (Jvm.Cond.methodLink "AsleepPass$Learnt" (1 : Nat) ({ cls := "java/lang/Object", name := "<init>", desc := "()V" } : Jvm.MethodName)) ∈ GT := mTE (sE_1_13 (mc8 List.mem_cons_self)) rfl
theorem wt_217 : (Jvm.Cond.fieldLink "AsleepPass$Learnt" (22 : Nat) "AsleepPass$Learnt" "size" "I") ∈ GT := mTE (sE_1_13 (mc9 List.mem_cons_self)) rfl
theorem wn_218 : (Jvm.Cond.fieldLinkNest "AsleepPass" (116 : Nat) "AsleepPass$Learnt" "size" "I" "AsleepPass") ∈ NT := mNE (sE_1_13 (mc10 List.mem_cons_self)) rfl
theorem wt_219 : (Jvm.Cond.fieldLink "AsleepPass$Learnt" (9 : Nat) "AsleepPass$Learnt" "stretchOf" "[I") ∈ GT := mTE (sE_1_13 (mc11 List.mem_cons_self)) rfl
theorem wt_220 : (Jvm.Cond.fieldLink "AsleepPass$Learnt" (13 : Nat) "AsleepPass$Learnt" "giverOf" "[I") ∈ GT := mTE (sE_1_13 (mc12 List.mem_cons_self)) rfl
theorem wt_221 : (Jvm.Cond.fieldLink "AsleepPass$Learnt" (16 : Nat) "AsleepPass$Learnt" "takerOf" "[I") ∈ GT := mTE (sE_1_13 (mc13 List.mem_cons_self)) rfl
theorem wt_222 : (Jvm.Cond.fieldLink "AsleepPass$Learnt" (19 : Nat) "AsleepPass$Learnt" "harmOf" "[I") ∈ GT := mTE (sE_1_13 (mc14 List.mem_cons_self)) rfl
theorem wt_223 : (Jvm.Cond.lays "AsleepPass$Learnt" "AsleepPass$Learnt" "size" "I") ∈ GT := mTE (sE_1_13 (mc15 List.mem_cons_self)) rfl
theorem wt_225 : (Jvm.Cond.laysFinal "AsleepPass$Learnt" "AsleepPass$Learnt" "stretchOf" "[I") ∈ GT := mTE (sE_1_14 (mc1 List.mem_cons_self)) rfl
theorem wt_227 : (Jvm.Cond.laysFinal "AsleepPass$Learnt" "AsleepPass$Learnt" "giverOf" "[I") ∈ GT := mTE (sE_1_14 (mc3 List.mem_cons_self)) rfl
theorem wt_229 : (Jvm.Cond.laysFinal "AsleepPass$Learnt" "AsleepPass$Learnt" "takerOf" "[I") ∈ GT := mTE (sE_1_14 (mc5 List.mem_cons_self)) rfl
theorem wt_231 : (Jvm.Cond.laysFinal "AsleepPass$Learnt" "AsleepPass$Learnt" "harmOf" "[I") ∈ GT := mTE (sE_1_14 (mc7 List.mem_cons_self)) rfl
theorem wt_234 : (Jvm.Cond.classLink "AsleepPass" (62 : Nat) "AsleepPass$Marked") ∈ GT := mTE (sE_1_14 (mc10 List.mem_cons_self)) rfl
theorem wt_235 : (Jvm.Cond.instantiable "AsleepPass$Marked" (3 : Nat)) ∈ GT := mTE (sE_1_14 (mc11 List.mem_cons_self)) rfl
theorem wn_236 : (Jvm.Cond.methodLinkNest "AsleepPass" (64 : Nat) ({ cls := "AsleepPass$Marked", name := "<init>", desc := "()V" } : Jvm.MethodName) "AsleepPass") ∈ NT := mNE (sE_1_14 (mc12 List.mem_cons_self)) rfl
theorem wt_237 : (Jvm.Cond.instanceMethod ({ cls := "AsleepPass$Marked", name := "<init>", desc := "()V" } : Jvm.MethodName)) ∈ GT := mTE (sE_1_14 (mc13 List.mem_cons_self)) rfl
theorem wt_238 : (Jvm.Cond.code ({ cls := "AsleepPass$Marked", name := "<init>", desc := "()V" } : Jvm.MethodName) prog_5_method_1_code (1 : Nat) (Option.none : Option Jvm.ClassFile.FieldType)) ∈ GT := mTE (sE_1_14 (mc14 List.mem_cons_self)) rfl
theorem wt_239 : (Jvm.Cond.methodLink "AsleepPass$Marked" (1 : Nat) ({ cls := "java/lang/Object", name := "<init>", desc := "()V" } : Jvm.MethodName)) ∈ GT := mTE (sE_1_14 (mc15 List.mem_cons_self)) rfl
theorem wt_240 : (Jvm.Cond.fieldLink "AsleepPass$Marked" (16 : Nat) "AsleepPass$Marked" "size" "I") ∈ GT := mTE (sE_2_0 List.mem_cons_self) rfl
theorem wn_241 : (Jvm.Cond.fieldLinkNest "AsleepPass" (119 : Nat) "AsleepPass$Marked" "size" "I" "AsleepPass") ∈ NT := mNE (sE_2_0 (mc1 List.mem_cons_self)) rfl
theorem wt_242 : (Jvm.Cond.fieldLink "AsleepPass$Marked" (9 : Nat) "AsleepPass$Marked" "stretchOf" "[I") ∈ GT := mTE (sE_2_0 (mc2 List.mem_cons_self)) rfl
theorem wt_243 : (Jvm.Cond.fieldLink "AsleepPass$Marked" (13 : Nat) "AsleepPass$Marked" "depthOf" "[I") ∈ GT := mTE (sE_2_0 (mc3 List.mem_cons_self)) rfl
theorem wt_244 : (Jvm.Cond.lays "AsleepPass$Marked" "AsleepPass$Marked" "size" "I") ∈ GT := mTE (sE_2_0 (mc4 List.mem_cons_self)) rfl
theorem wt_246 : (Jvm.Cond.laysFinal "AsleepPass$Marked" "AsleepPass$Marked" "stretchOf" "[I") ∈ GT := mTE (sE_2_0 (mc6 List.mem_cons_self)) rfl
theorem wt_248 : (Jvm.Cond.laysFinal "AsleepPass$Marked" "AsleepPass$Marked" "depthOf" "[I") ∈ GT := mTE (sE_2_0 (mc8 List.mem_cons_self)) rfl
theorem wt_251 : (Jvm.Cond.classLink "AsleepPass" (69 : Nat) "AsleepPass$Trails") ∈ GT := mTE (sE_2_0 (mc11 List.mem_cons_self)) rfl
theorem wt_252 : (Jvm.Cond.instantiable "AsleepPass$Trails" (3 : Nat)) ∈ GT := mTE (sE_2_0 (mc12 List.mem_cons_self)) rfl
theorem wn_253 : (Jvm.Cond.methodLinkNest "AsleepPass" (71 : Nat) ({ cls := "AsleepPass$Trails", name := "<init>", desc := "()V" } : Jvm.MethodName) "AsleepPass") ∈ NT := mNE (sE_2_0 (mc13 List.mem_cons_self)) rfl
theorem wt_254 : (Jvm.Cond.instanceMethod ({ cls := "AsleepPass$Trails", name := "<init>", desc := "()V" } : Jvm.MethodName)) ∈ GT := mTE (sE_2_0 (mc14 List.mem_cons_self)) rfl
theorem wt_255 : (Jvm.Cond.code ({ cls := "AsleepPass$Trails", name := "<init>", desc := "()V" } : Jvm.MethodName) prog_10_method_1_code (1 : Nat) (Option.none : Option Jvm.ClassFile.FieldType)) ∈ GT := mTE (sE_2_0 (mc15 List.mem_cons_self)) rfl
theorem wt_256 : (Jvm.Cond.methodLink "AsleepPass$Trails" (3 : Nat) ({ cls := "java/lang/Object", name := "<init>", desc := "()V" } : Jvm.MethodName)) ∈ GT := mTE (sE_2_1 List.mem_cons_self) rfl
theorem wt_257 : (Jvm.Cond.classLink "AsleepPass$Trails" (9 : Nat) "[[I") ∈ GT := mTE (sE_2_1 (mc1 List.mem_cons_self)) rfl
theorem wt_258 : (Jvm.Cond.fieldLink "AsleepPass$Trails" (43 : Nat) "AsleepPass$Trails" "total" "I") ∈ GT := mTE (sE_2_1 (mc2 List.mem_cons_self)) rfl
theorem wn_259 : (Jvm.Cond.fieldLinkNest "AsleepPass" (261 : Nat) "AsleepPass$Trails" "total" "I" "AsleepPass") ∈ NT := mNE (sE_2_1 (mc3 List.mem_cons_self)) rfl
theorem wt_260 : (Jvm.Cond.fieldLink "AsleepPass$Trails" (11 : Nat) "AsleepPass$Trails" "into" "[[I") ∈ GT := mTE (sE_2_1 (mc4 List.mem_cons_self)) rfl
theorem wt_261 : (Jvm.Cond.fieldLink "AsleepPass$Trails" (16 : Nat) "AsleepPass$Trails" "onward" "[[I") ∈ GT := mTE (sE_2_1 (mc5 List.mem_cons_self)) rfl
theorem wt_262 : (Jvm.Cond.lays "AsleepPass$Trails" "AsleepPass$Trails" "total" "I") ∈ GT := mTE (sE_2_1 (mc6 List.mem_cons_self)) rfl
theorem wt_264 : (Jvm.Cond.laysFinal "AsleepPass$Trails" "AsleepPass$Trails" "into" "[[I") ∈ GT := mTE (sE_2_1 (mc8 List.mem_cons_self)) rfl
theorem wt_266 : (Jvm.Cond.laysFinal "AsleepPass$Trails" "AsleepPass$Trails" "onward" "[[I") ∈ GT := mTE (sE_2_1 (mc10 List.mem_cons_self)) rfl
theorem wt_269 : (Jvm.Cond.classLink "AsleepPass" (76 : Nat) "AsleepPass$Sheets") ∈ GT := mTE (sE_2_1 (mc13 List.mem_cons_self)) rfl
theorem wt_270 : (Jvm.Cond.instantiable "AsleepPass$Sheets" (7 : Nat)) ∈ GT := mTE (sE_2_1 (mc14 List.mem_cons_self)) rfl
theorem wn_271 : (Jvm.Cond.methodLinkNest "AsleepPass" (78 : Nat) ({ cls := "AsleepPass$Sheets", name := "<init>", desc := "()V" } : Jvm.MethodName) "AsleepPass") ∈ NT := mNE (sE_2_1 (mc15 List.mem_cons_self)) rfl
theorem wt_272 : (Jvm.Cond.instanceMethod ({ cls := "AsleepPass$Sheets", name := "<init>", desc := "()V" } : Jvm.MethodName)) ∈ GT := mTE (sE_2_2 List.mem_cons_self) rfl
theorem wt_273 : (Jvm.Cond.code ({ cls := "AsleepPass$Sheets", name := "<init>", desc := "()V" } : Jvm.MethodName) prog_8_method_1_code (1 : Nat) (Option.none : Option Jvm.ClassFile.FieldType)) ∈ GT := mTE (sE_2_2 (mc1 List.mem_cons_self)) rfl
theorem wt_274 : (Jvm.Cond.methodLink "AsleepPass$Sheets" (3 : Nat) ({ cls := "java/lang/Object", name := "<init>", desc := "()V" } : Jvm.MethodName)) ∈ GT := mTE (sE_2_2 (mc2 List.mem_cons_self)) rfl
theorem wt_275 : (Jvm.Cond.classLink "AsleepPass$Sheets" (18 : Nat) "[[I") ∈ GT := mTE (sE_2_2 (mc3 List.mem_cons_self)) rfl
theorem wt_276 : (Jvm.Cond.fieldLink "AsleepPass$Sheets" (11 : Nat) "AsleepPass$Sheets" "lanes" "[I") ∈ GT := mTE (sE_2_2 (mc4 List.mem_cons_self)) rfl
theorem wt_277 : (Jvm.Cond.fieldLink "AsleepPass$Sheets" (15 : Nat) "AsleepPass$Sheets" "sizes" "[I") ∈ GT := mTE (sE_2_2 (mc5 List.mem_cons_self)) rfl
theorem wt_278 : (Jvm.Cond.fieldLink "AsleepPass$Sheets" (20 : Nat) "AsleepPass$Sheets" "cells" "[[I") ∈ GT := mTE (sE_2_2 (mc6 List.mem_cons_self)) rfl
theorem wt_279 : (Jvm.Cond.fieldLink "AsleepPass$Sheets" (41 : Nat) "AsleepPass$Sheets" "found" "I") ∈ GT := mTE (sE_2_2 (mc7 List.mem_cons_self)) rfl
theorem wn_280 : (Jvm.Cond.fieldLinkNest "AsleepPass" (307 : Nat) "AsleepPass$Sheets" "found" "I" "AsleepPass") ∈ NT := mNE (sE_2_2 (mc8 List.mem_cons_self)) rfl
theorem wt_281 : (Jvm.Cond.fieldLink "AsleepPass$Sheets" (37 : Nat) "AsleepPass$Sheets" "pairs" "I") ∈ GT := mTE (sE_2_2 (mc9 List.mem_cons_self)) rfl
theorem wn_282 : (Jvm.Cond.fieldLinkNest "AsleepPass" (298 : Nat) "AsleepPass$Sheets" "pairs" "I" "AsleepPass") ∈ NT := mNE (sE_2_2 (mc10 List.mem_cons_self)) rfl
theorem wt_283 : (Jvm.Cond.fieldLink "AsleepPass$Sheets" (23 : Nat) "AsleepPass$Sheets" "firsts" "[I") ∈ GT := mTE (sE_2_2 (mc11 List.mem_cons_self)) rfl
theorem wn_284 : (Jvm.Cond.fieldLinkNest "AsleepPass" (301 : Nat) "AsleepPass$Sheets" "firsts" "[I" "AsleepPass") ∈ NT := mNE (sE_2_2 (mc12 List.mem_cons_self)) rfl
theorem wt_285 : (Jvm.Cond.fieldLink "AsleepPass$Sheets" (26 : Nat) "AsleepPass$Sheets" "seconds" "[I") ∈ GT := mTE (sE_2_2 (mc13 List.mem_cons_self)) rfl
theorem wn_286 : (Jvm.Cond.fieldLinkNest "AsleepPass" (304 : Nat) "AsleepPass$Sheets" "seconds" "[I" "AsleepPass") ∈ NT := mNE (sE_2_2 (mc14 List.mem_cons_self)) rfl
theorem wt_287 : (Jvm.Cond.laysFinal "AsleepPass$Sheets" "AsleepPass$Sheets" "lanes" "[I") ∈ GT := mTE (sE_2_2 (mc15 List.mem_cons_self)) rfl
theorem wt_289 : (Jvm.Cond.laysFinal "AsleepPass$Sheets" "AsleepPass$Sheets" "sizes" "[I") ∈ GT := mTE (sE_2_3 (mc1 List.mem_cons_self)) rfl
theorem wt_291 : (Jvm.Cond.laysFinal "AsleepPass$Sheets" "AsleepPass$Sheets" "cells" "[[I") ∈ GT := mTE (sE_2_3 (mc3 List.mem_cons_self)) rfl
theorem wt_293 : (Jvm.Cond.lays "AsleepPass$Sheets" "AsleepPass$Sheets" "found" "I") ∈ GT := mTE (sE_2_3 (mc5 List.mem_cons_self)) rfl
theorem wt_295 : (Jvm.Cond.lays "AsleepPass$Sheets" "AsleepPass$Sheets" "pairs" "I") ∈ GT := mTE (sE_2_3 (mc7 List.mem_cons_self)) rfl
theorem wt_297 : (Jvm.Cond.laysFinal "AsleepPass$Sheets" "AsleepPass$Sheets" "firsts" "[I") ∈ GT := mTE (sE_2_3 (mc9 List.mem_cons_self)) rfl
theorem wt_299 : (Jvm.Cond.laysFinal "AsleepPass$Sheets" "AsleepPass$Sheets" "seconds" "[I") ∈ GT := mTE (sE_2_3 (mc11 List.mem_cons_self)) rfl
theorem wt_302 : (Jvm.Cond.fieldLink "AsleepPass" (10 : Nat) "AsleepPass" "reader" "LAsleepPass$Reader;") ∈ GT := mTE (sE_2_3 (mc14 List.mem_cons_self)) rfl
theorem wt_303 : (Jvm.Cond.fieldLink "AsleepPass" (19 : Nat) "AsleepPass" "way" "LAsleepPass$Way;") ∈ GT := mTE (sE_2_3 (mc15 List.mem_cons_self)) rfl
theorem wt_304 : (Jvm.Cond.fieldLink "AsleepPass" (23 : Nat) "AsleepPass" "trial" "LAsleepPass$Way;") ∈ GT := mTE (sE_2_4 List.mem_cons_self) rfl
theorem wt_305 : (Jvm.Cond.fieldLink "AsleepPass" (26 : Nat) "AsleepPass" "images" "[LAsleepPass$Way;") ∈ GT := mTE (sE_2_4 (mc1 List.mem_cons_self)) rfl
theorem wt_306 : (Jvm.Cond.fieldLink "AsleepPass" (30 : Nat) "AsleepPass" "kept" "[Z") ∈ GT := mTE (sE_2_4 (mc2 List.mem_cons_self)) rfl
theorem wt_307 : (Jvm.Cond.fieldLink "AsleepPass" (37 : Nat) "AsleepPass" "odds" "LAsleepPass$Odds;") ∈ GT := mTE (sE_2_4 (mc3 List.mem_cons_self)) rfl
theorem wt_308 : (Jvm.Cond.fieldLink "AsleepPass" (44 : Nat) "AsleepPass" "choice" "LAsleepPass$Choice;") ∈ GT := mTE (sE_2_4 (mc4 List.mem_cons_self)) rfl
theorem wt_309 : (Jvm.Cond.fieldLink "AsleepPass" (51 : Nat) "AsleepPass" "crossing" "LAsleepPass$Crossing;") ∈ GT := mTE (sE_2_4 (mc5 List.mem_cons_self)) rfl
theorem wt_310 : (Jvm.Cond.fieldLink "AsleepPass" (58 : Nat) "AsleepPass" "learnt" "LAsleepPass$Learnt;") ∈ GT := mTE (sE_2_4 (mc6 List.mem_cons_self)) rfl
theorem wt_311 : (Jvm.Cond.fieldLink "AsleepPass" (65 : Nat) "AsleepPass" "marked" "LAsleepPass$Marked;") ∈ GT := mTE (sE_2_4 (mc7 List.mem_cons_self)) rfl
theorem wt_312 : (Jvm.Cond.fieldLink "AsleepPass" (72 : Nat) "AsleepPass" "trails" "LAsleepPass$Trails;") ∈ GT := mTE (sE_2_4 (mc8 List.mem_cons_self)) rfl
theorem wt_313 : (Jvm.Cond.fieldLink "AsleepPass" (79 : Nat) "AsleepPass" "sheets" "LAsleepPass$Sheets;") ∈ GT := mTE (sE_2_4 (mc9 List.mem_cons_self)) rfl
theorem wt_314 : (Jvm.Cond.fieldLink "AsleepPass" (103 : Nat) "AsleepPass" "textFault" "I") ∈ GT := mTE (sE_2_4 (mc10 List.mem_cons_self)) rfl
theorem wt_315 : (Jvm.Cond.fieldLink "AsleepPass" (308 : Nat) "AsleepPass" "readFault" "I") ∈ GT := mTE (sE_2_4 (mc11 List.mem_cons_self)) rfl
theorem wt_316 : (Jvm.Cond.laysFinal "AsleepPass" "AsleepPass" "reader" "LAsleepPass$Reader;") ∈ GT := mTE (sE_2_4 (mc12 List.mem_cons_self)) rfl
theorem wt_318 : (Jvm.Cond.laysFinal "AsleepPass" "AsleepPass" "way" "LAsleepPass$Way;") ∈ GT := mTE (sE_2_4 (mc14 List.mem_cons_self)) rfl
theorem wt_320 : (Jvm.Cond.laysFinal "AsleepPass" "AsleepPass" "trial" "LAsleepPass$Way;") ∈ GT := mTE (sE_2_5 List.mem_cons_self) rfl
theorem wt_322 : (Jvm.Cond.laysFinal "AsleepPass" "AsleepPass" "images" "[LAsleepPass$Way;") ∈ GT := mTE (sE_2_5 (mc2 List.mem_cons_self)) rfl
theorem wt_324 : (Jvm.Cond.laysFinal "AsleepPass" "AsleepPass" "kept" "[Z") ∈ GT := mTE (sE_2_5 (mc4 List.mem_cons_self)) rfl
theorem wt_326 : (Jvm.Cond.laysFinal "AsleepPass" "AsleepPass" "odds" "LAsleepPass$Odds;") ∈ GT := mTE (sE_2_5 (mc6 List.mem_cons_self)) rfl
theorem wt_328 : (Jvm.Cond.laysFinal "AsleepPass" "AsleepPass" "choice" "LAsleepPass$Choice;") ∈ GT := mTE (sE_2_5 (mc8 List.mem_cons_self)) rfl
theorem wt_330 : (Jvm.Cond.laysFinal "AsleepPass" "AsleepPass" "crossing" "LAsleepPass$Crossing;") ∈ GT := mTE (sE_2_5 (mc10 List.mem_cons_self)) rfl
theorem wt_332 : (Jvm.Cond.laysFinal "AsleepPass" "AsleepPass" "learnt" "LAsleepPass$Learnt;") ∈ GT := mTE (sE_2_5 (mc12 List.mem_cons_self)) rfl
theorem wt_334 : (Jvm.Cond.laysFinal "AsleepPass" "AsleepPass" "marked" "LAsleepPass$Marked;") ∈ GT := mTE (sE_2_5 (mc14 List.mem_cons_self)) rfl
theorem wt_336 : (Jvm.Cond.laysFinal "AsleepPass" "AsleepPass" "trails" "LAsleepPass$Trails;") ∈ GT := mTE (sE_2_6 List.mem_cons_self) rfl
theorem wt_338 : (Jvm.Cond.laysFinal "AsleepPass" "AsleepPass" "sheets" "LAsleepPass$Sheets;") ∈ GT := mTE (sE_2_6 (mc2 List.mem_cons_self)) rfl
theorem wt_340 : (Jvm.Cond.lays "AsleepPass" "AsleepPass" "textFault" "I") ∈ GT := mTE (sE_2_6 (mc4 List.mem_cons_self)) rfl
theorem wt_342 : (Jvm.Cond.lays "AsleepPass" "AsleepPass" "readFault" "I") ∈ GT := mTE (sE_2_6 (mc6 List.mem_cons_self)) rfl
theorem wt_345 : (Jvm.Cond.methodLink "AsleepPassLaw" (15 : Nat) ({ cls := "AsleepPass", name := "feed", desc := "(J)I" } : Jvm.MethodName)) ∈ GT := mTE (sE_2_6 (mc9 List.mem_cons_self)) rfl
theorem wt_346 : (Jvm.Cond.instanceMethod ({ cls := "AsleepPass", name := "feed", desc := "(J)I" } : Jvm.MethodName)) ∈ GT := mTE (sE_2_6 (mc10 List.mem_cons_self)) rfl
theorem wt_347 : (Jvm.Cond.selects "AsleepPass" ({ cls := "AsleepPass", name := "feed", desc := "(J)I" } : Jvm.MethodName) ({ cls := "AsleepPass", name := "feed", desc := "(J)I" } : Jvm.MethodName)) ∈ GT := mTE (sE_2_6 (mc11 List.mem_cons_self)) rfl
theorem wt_348 : (Jvm.Cond.code ({ cls := "AsleepPass", name := "feed", desc := "(J)I" } : Jvm.MethodName) prog_1_method_2_code (3 : Nat) (Option.some Jvm.ClassFile.FieldType.int)) ∈ GT := mTE (sE_2_6 (mc12 List.mem_cons_self)) rfl
theorem wn_349 : (Jvm.Cond.methodLinkNest "AsleepPass" (87 : Nat) ({ cls := "AsleepPass$Tape", name := "addBytes", desc := "(J)Z" } : Jvm.MethodName) "AsleepPass") ∈ NT := mNE (sE_2_6 (mc13 List.mem_cons_self)) rfl
theorem wt_351 : (Jvm.Cond.instanceMethod ({ cls := "AsleepPass$Tape", name := "addBytes", desc := "(J)Z" } : Jvm.MethodName)) ∈ GT := mTE (sE_2_6 (mc15 List.mem_cons_self)) rfl
theorem wt_352 : (Jvm.Cond.code ({ cls := "AsleepPass$Tape", name := "addBytes", desc := "(J)Z" } : Jvm.MethodName) prog_9_method_2_code (4 : Nat) (Option.some Jvm.ClassFile.FieldType.boolean)) ∈ GT := mTE (sE_2_7 List.mem_cons_self) rfl
theorem wt_353 : (Jvm.Cond.constantLong "AsleepPass$Tape" (17 : Nat) (255 : Int64)) ∈ GT := mTE (sE_2_7 (mc1 List.mem_cons_self)) rfl
theorem wt_354 : (Jvm.Cond.methodLink "AsleepPassLaw" (20 : Nat) ({ cls := "AsleepPass", name := "end", desc := "(I)I" } : Jvm.MethodName)) ∈ GT := mTE (sE_2_7 (mc2 List.mem_cons_self)) rfl
theorem wt_355 : (Jvm.Cond.instanceMethod ({ cls := "AsleepPass", name := "end", desc := "(I)I" } : Jvm.MethodName)) ∈ GT := mTE (sE_2_7 (mc3 List.mem_cons_self)) rfl
theorem wt_356 : (Jvm.Cond.selects "AsleepPass" ({ cls := "AsleepPass", name := "end", desc := "(I)I" } : Jvm.MethodName) ({ cls := "AsleepPass", name := "end", desc := "(I)I" } : Jvm.MethodName)) ∈ GT := mTE (sE_2_7 (mc4 List.mem_cons_self)) rfl
theorem wt_357 : (Jvm.Cond.code ({ cls := "AsleepPass", name := "end", desc := "(I)I" } : Jvm.MethodName) prog_1_method_3_code (3 : Nat) (Option.some Jvm.ClassFile.FieldType.int)) ∈ GT := mTE (sE_2_7 (mc5 List.mem_cons_self)) rfl
theorem wt_358 : (Jvm.Cond.methodLink "AsleepPassLaw" (25 : Nat) ({ cls := "AsleepPass", name := "text", desc := "()I" } : Jvm.MethodName)) ∈ GT := mTE (sE_2_7 (mc6 List.mem_cons_self)) rfl
theorem wt_359 : (Jvm.Cond.instanceMethod ({ cls := "AsleepPass", name := "text", desc := "()I" } : Jvm.MethodName)) ∈ GT := mTE (sE_2_7 (mc7 List.mem_cons_self)) rfl
theorem wt_360 : (Jvm.Cond.selects "AsleepPass" ({ cls := "AsleepPass", name := "text", desc := "()I" } : Jvm.MethodName) ({ cls := "AsleepPass", name := "text", desc := "()I" } : Jvm.MethodName)) ∈ GT := mTE (sE_2_7 (mc8 List.mem_cons_self)) rfl
theorem wt_361 : (Jvm.Cond.code ({ cls := "AsleepPass", name := "text", desc := "()I" } : Jvm.MethodName) prog_1_method_4_code (2 : Nat) (Option.some Jvm.ClassFile.FieldType.int)) ∈ GT := mTE (sE_2_7 (mc9 List.mem_cons_self)) rfl
theorem wn_362 : (Jvm.Cond.methodLinkNest "AsleepPass" (97 : Nat) ({ cls := "AsleepPass$Reader", name := "readAll", desc := "()V" } : Jvm.MethodName) "AsleepPass") ∈ NT := mNE (sE_2_7 (mc10 List.mem_cons_self)) rfl
theorem wt_364 : (Jvm.Cond.instanceMethod ({ cls := "AsleepPass$Reader", name := "readAll", desc := "()V" } : Jvm.MethodName)) ∈ GT := mTE (sE_2_7 (mc12 List.mem_cons_self)) rfl
theorem wt_365 : (Jvm.Cond.code ({ cls := "AsleepPass$Reader", name := "readAll", desc := "()V" } : Jvm.MethodName) prog_7_method_2_code (2 : Nat) (Option.none : Option Jvm.ClassFile.FieldType)) ∈ GT := mTE (sE_2_7 (mc13 List.mem_cons_self)) rfl
theorem wt_366 : (Jvm.Cond.methodLink "AsleepPass$Reader" (25 : Nat) ({ cls := "AsleepPass$Reader", name := "begin", desc := "()V" } : Jvm.MethodName)) ∈ GT := mTE (sE_2_7 (mc14 List.mem_cons_self)) rfl
theorem wt_368 : (Jvm.Cond.instanceMethod ({ cls := "AsleepPass$Reader", name := "begin", desc := "()V" } : Jvm.MethodName)) ∈ GT := mTE (sE_2_8 List.mem_cons_self) rfl
theorem wt_369 : (Jvm.Cond.code ({ cls := "AsleepPass$Reader", name := "begin", desc := "()V" } : Jvm.MethodName) prog_7_method_3_code (1 : Nat) (Option.none : Option Jvm.ClassFile.FieldType)) ∈ GT := mTE (sE_2_8 (mc1 List.mem_cons_self)) rfl
theorem wn_370 : (Jvm.Cond.methodLinkNest "AsleepPass$Reader" (51 : Nat) ({ cls := "AsleepPass$Way", name := "clear", desc := "()V" } : Jvm.MethodName) "AsleepPass") ∈ NT := mNE (sE_2_8 (mc2 List.mem_cons_self)) rfl
theorem wt_372 : (Jvm.Cond.instanceMethod ({ cls := "AsleepPass$Way", name := "clear", desc := "()V" } : Jvm.MethodName)) ∈ GT := mTE (sE_2_8 (mc4 List.mem_cons_self)) rfl
theorem wt_373 : (Jvm.Cond.code ({ cls := "AsleepPass$Way", name := "clear", desc := "()V" } : Jvm.MethodName) prog_11_method_2_code (2 : Nat) (Option.none : Option Jvm.ClassFile.FieldType)) ∈ GT := mTE (sE_2_8 (mc5 List.mem_cons_self)) rfl
theorem wt_374 : (Jvm.Cond.methodLink "AsleepPass$Reader" (28 : Nat) ({ cls := "AsleepPass$Reader", name := "nextToken", desc := "()Z" } : Jvm.MethodName)) ∈ GT := mTE (sE_2_8 (mc6 List.mem_cons_self)) rfl
theorem wt_376 : (Jvm.Cond.instanceMethod ({ cls := "AsleepPass$Reader", name := "nextToken", desc := "()Z" } : Jvm.MethodName)) ∈ GT := mTE (sE_2_8 (mc8 List.mem_cons_self)) rfl
theorem wt_377 : (Jvm.Cond.code ({ cls := "AsleepPass$Reader", name := "nextToken", desc := "()Z" } : Jvm.MethodName) prog_7_method_5_code (2 : Nat) (Option.some Jvm.ClassFile.FieldType.boolean)) ∈ GT := mTE (sE_2_8 (mc9 List.mem_cons_self)) rfl
theorem wn_378 : (Jvm.Cond.methodLinkNest "AsleepPass$Reader" (73 : Nat) ({ cls := "AsleepPass$Tape", name := "pastAll", desc := "(ICC)I" } : Jvm.MethodName) "AsleepPass") ∈ NT := mNE (sE_2_8 (mc10 List.mem_cons_self)) rfl
theorem wt_380 : (Jvm.Cond.instanceMethod ({ cls := "AsleepPass$Tape", name := "pastAll", desc := "(ICC)I" } : Jvm.MethodName)) ∈ GT := mTE (sE_2_8 (mc12 List.mem_cons_self)) rfl
theorem wt_381 : (Jvm.Cond.code ({ cls := "AsleepPass$Tape", name := "pastAll", desc := "(ICC)I" } : Jvm.MethodName) prog_9_method_5_code (5 : Nat) (Option.some Jvm.ClassFile.FieldType.int)) ∈ GT := mTE (sE_2_8 (mc13 List.mem_cons_self)) rfl
theorem wn_382 : (Jvm.Cond.methodLinkNest "AsleepPass$Reader" (80 : Nat) ({ cls := "AsleepPass$Tape", name := "byteAt", desc := "(I)I" } : Jvm.MethodName) "AsleepPass") ∈ NT := mNE (sE_2_8 (mc14 List.mem_cons_self)) rfl
theorem wt_384 : (Jvm.Cond.instanceMethod ({ cls := "AsleepPass$Tape", name := "byteAt", desc := "(I)I" } : Jvm.MethodName)) ∈ GT := mTE (sE_2_9 List.mem_cons_self) rfl
theorem wt_385 : (Jvm.Cond.code ({ cls := "AsleepPass$Tape", name := "byteAt", desc := "(I)I" } : Jvm.MethodName) prog_9_method_3_code (2 : Nat) (Option.some Jvm.ClassFile.FieldType.int)) ∈ GT := mTE (sE_2_9 (mc1 List.mem_cons_self)) rfl
theorem wt_386 : (Jvm.Cond.methodLink "AsleepPass$Reader" (84 : Nat) ({ cls := "AsleepPass$Reader", name := "refuse", desc := "(II)Z" } : Jvm.MethodName)) ∈ GT := mTE (sE_2_9 (mc2 List.mem_cons_self)) rfl
theorem wt_388 : (Jvm.Cond.instanceMethod ({ cls := "AsleepPass$Reader", name := "refuse", desc := "(II)Z" } : Jvm.MethodName)) ∈ GT := mTE (sE_2_9 (mc4 List.mem_cons_self)) rfl
theorem wt_389 : (Jvm.Cond.code ({ cls := "AsleepPass$Reader", name := "refuse", desc := "(II)Z" } : Jvm.MethodName) prog_7_method_4_code (3 : Nat) (Option.some Jvm.ClassFile.FieldType.boolean)) ∈ GT := mTE (sE_2_9 (mc5 List.mem_cons_self)) rfl
theorem wt_390 : (Jvm.Cond.methodLink "AsleepPass$Reader" (42 : Nat) ({ cls := "AsleepPass$Reader", name := "readLine", desc := "()Z" } : Jvm.MethodName)) ∈ GT := mTE (sE_2_9 (mc6 List.mem_cons_self)) rfl
theorem wt_392 : (Jvm.Cond.instanceMethod ({ cls := "AsleepPass$Reader", name := "readLine", desc := "()Z" } : Jvm.MethodName)) ∈ GT := mTE (sE_2_9 (mc8 List.mem_cons_self)) rfl
theorem wt_393 : (Jvm.Cond.code ({ cls := "AsleepPass$Reader", name := "readLine", desc := "()Z" } : Jvm.MethodName) prog_7_method_7_code (1 : Nat) (Option.some Jvm.ClassFile.FieldType.boolean)) ∈ GT := mTE (sE_2_9 (mc9 List.mem_cons_self)) rfl
theorem wt_395 : (Jvm.Cond.methodLink "AsleepPass$Reader" (94 : Nat) ({ cls := "AsleepPass$Reader", name := "isName", desc := "(Ljava/lang/String;)Z" } : Jvm.MethodName)) ∈ GT := mTE (sE_2_9 (mc11 List.mem_cons_self)) rfl
theorem wt_397 : (Jvm.Cond.instanceMethod ({ cls := "AsleepPass$Reader", name := "isName", desc := "(Ljava/lang/String;)Z" } : Jvm.MethodName)) ∈ GT := mTE (sE_2_9 (mc13 List.mem_cons_self)) rfl
theorem wt_398 : (Jvm.Cond.code ({ cls := "AsleepPass$Reader", name := "isName", desc := "(Ljava/lang/String;)Z" } : Jvm.MethodName) prog_7_method_6_code (2 : Nat) (Option.some Jvm.ClassFile.FieldType.boolean)) ∈ GT := mTE (sE_2_9 (mc14 List.mem_cons_self)) rfl
theorem wn_399 : (Jvm.Cond.methodLinkNest "AsleepPass$Reader" (88 : Nat) ({ cls := "AsleepPass$Tape", name := "says", desc := "(IILjava/lang/String;)Z" } : Jvm.MethodName) "AsleepPass") ∈ NT := mNE (sE_2_9 (mc15 List.mem_cons_self)) rfl
theorem wt_401 : (Jvm.Cond.instanceMethod ({ cls := "AsleepPass$Tape", name := "says", desc := "(IILjava/lang/String;)Z" } : Jvm.MethodName)) ∈ GT := mTE (sE_2_10 (mc1 List.mem_cons_self)) rfl
theorem wt_402 : (Jvm.Cond.code ({ cls := "AsleepPass$Tape", name := "says", desc := "(IILjava/lang/String;)Z" } : Jvm.MethodName) prog_9_method_4_code (5 : Nat) (Option.some Jvm.ClassFile.FieldType.boolean)) ∈ GT := mTE (sE_2_10 (mc2 List.mem_cons_self)) rfl
theorem wt_403 : (Jvm.Cond.methodLink "AsleepPass$Tape" (19 : Nat) ({ cls := "java/lang/String", name := "length", desc := "()I" } : Jvm.MethodName)) ∈ GT := mTE (sE_2_10 (mc3 List.mem_cons_self)) rfl
theorem wt_404 : (Jvm.Cond.instanceMethod ({ cls := "java/lang/String", name := "length", desc := "()I" } : Jvm.MethodName)) ∈ GT := mTE (sE_2_10 (mc4 List.mem_cons_self)) rfl
theorem wt_405 : (Jvm.Cond.selects "java/lang/String" ({ cls := "java/lang/String", name := "length", desc := "()I" } : Jvm.MethodName) ({ cls := "java/lang/String", name := "length", desc := "()I" } : Jvm.MethodName)) ∈ GT := mTE (sE_2_10 (mc5 List.mem_cons_self)) rfl
theorem wt_406 : (Jvm.Cond.code ({ cls := "java/lang/String", name := "length", desc := "()I" } : Jvm.MethodName) prog_16_method_54_code (1 : Nat) (Option.some Jvm.ClassFile.FieldType.int)) ∈ GT := mTE (sE_2_10 (mc6 List.mem_cons_self)) rfl
theorem wt_407 : (Jvm.Cond.methodLink "java/lang/String" (335 : Nat) ({ cls := "java/lang/String", name := "coder", desc := "()B" } : Jvm.MethodName)) ∈ GT := mTE (sE_2_10 (mc7 List.mem_cons_self)) rfl
theorem wt_408 : (Jvm.Cond.instanceMethod ({ cls := "java/lang/String", name := "coder", desc := "()B" } : Jvm.MethodName)) ∈ GT := mTE (sE_2_10 (mc8 List.mem_cons_self)) rfl
theorem wt_409 : (Jvm.Cond.selects "java/lang/String" ({ cls := "java/lang/String", name := "coder", desc := "()B" } : Jvm.MethodName) ({ cls := "java/lang/String", name := "coder", desc := "()B" } : Jvm.MethodName)) ∈ GT := mTE (sE_2_10 (mc9 List.mem_cons_self)) rfl
theorem wt_410 : (Jvm.Cond.code ({ cls := "java/lang/String", name := "coder", desc := "()B" } : Jvm.MethodName) prog_16_method_152_code (1 : Nat) (Option.some Jvm.ClassFile.FieldType.byte)) ∈ GT := mTE (sE_2_10 (mc10 List.mem_cons_self)) rfl
theorem wt_411 : (Jvm.Cond.fieldLink "java/lang/String" (38 : Nat) "java/lang/String" "COMPACT_STRINGS" "Z") ∈ GT := mTE (sE_2_10 (mc11 List.mem_cons_self)) rfl
theorem wt_413 : (Jvm.Cond.methodLink "AsleepPass$Tape" (24 : Nat) ({ cls := "java/lang/String", name := "charAt", desc := "(I)C" } : Jvm.MethodName)) ∈ GT := mTE (sE_2_10 (mc13 List.mem_cons_self)) rfl
theorem wt_414 : (Jvm.Cond.instanceMethod ({ cls := "java/lang/String", name := "charAt", desc := "(I)C" } : Jvm.MethodName)) ∈ GT := mTE (sE_2_10 (mc14 List.mem_cons_self)) rfl
theorem wt_415 : (Jvm.Cond.selects "java/lang/String" ({ cls := "java/lang/String", name := "charAt", desc := "(I)C" } : Jvm.MethodName) ({ cls := "java/lang/String", name := "charAt", desc := "(I)C" } : Jvm.MethodName)) ∈ GT := mTE (sE_2_10 (mc15 List.mem_cons_self)) rfl
theorem wt_416 : (Jvm.Cond.code ({ cls := "java/lang/String", name := "charAt", desc := "(I)C" } : Jvm.MethodName) prog_16_method_56_code (2 : Nat) (Option.some Jvm.ClassFile.FieldType.char)) ∈ GT := mTE (sE_2_11 List.mem_cons_self) rfl
theorem wt_417 : (Jvm.Cond.methodLink "java/lang/String" (492 : Nat) ({ cls := "java/lang/String", name := "isLatin1", desc := "()Z" } : Jvm.MethodName)) ∈ GT := mTE (sE_2_11 (mc1 List.mem_cons_self)) rfl
theorem wt_418 : (Jvm.Cond.instanceMethod ({ cls := "java/lang/String", name := "isLatin1", desc := "()Z" } : Jvm.MethodName)) ∈ GT := mTE (sE_2_11 (mc2 List.mem_cons_self)) rfl
theorem wt_419 : (Jvm.Cond.selects "java/lang/String" ({ cls := "java/lang/String", name := "isLatin1", desc := "()Z" } : Jvm.MethodName) ({ cls := "java/lang/String", name := "isLatin1", desc := "()Z" } : Jvm.MethodName)) ∈ GT := mTE (sE_2_11 (mc3 List.mem_cons_self)) rfl
theorem wt_420 : (Jvm.Cond.code ({ cls := "java/lang/String", name := "isLatin1", desc := "()Z" } : Jvm.MethodName) prog_16_method_154_code (1 : Nat) (Option.some Jvm.ClassFile.FieldType.boolean)) ∈ GT := mTE (sE_2_11 (mc4 List.mem_cons_self)) rfl
theorem wt_421 : (Jvm.Cond.methodLink "java/lang/String" (495 : Nat) ({ cls := "java/lang/StringLatin1", name := "charAt", desc := "([BI)C" } : Jvm.MethodName)) ∈ GT := mTE (sE_2_11 (mc5 List.mem_cons_self)) rfl
theorem wt_422 : (Jvm.Cond.static ({ cls := "java/lang/StringLatin1", name := "charAt", desc := "([BI)C" } : Jvm.MethodName)) ∈ GT := mTE (sE_2_11 (mc6 List.mem_cons_self)) rfl
theorem wt_423 : (Jvm.Cond.code ({ cls := "java/lang/StringLatin1", name := "charAt", desc := "([BI)C" } : Jvm.MethodName) prog_17_method_2_code (2 : Nat) (Option.some Jvm.ClassFile.FieldType.char)) ∈ GT := mTE (sE_2_11 (mc7 List.mem_cons_self)) rfl
theorem wt_424 : (Jvm.Cond.methodLink "java/lang/StringLatin1" (9 : Nat) ({ cls := "java/lang/String", name := "checkIndex", desc := "(II)V" } : Jvm.MethodName)) ∈ GT := mTE (sE_2_11 (mc8 List.mem_cons_self)) rfl
theorem wt_425 : (Jvm.Cond.static ({ cls := "java/lang/String", name := "checkIndex", desc := "(II)V" } : Jvm.MethodName)) ∈ GT := mTE (sE_2_11 (mc9 List.mem_cons_self)) rfl
theorem wt_426 : (Jvm.Cond.code ({ cls := "java/lang/String", name := "checkIndex", desc := "(II)V" } : Jvm.MethodName) prog_16_method_155_code (2 : Nat) (Option.none : Option Jvm.ClassFile.FieldType)) ∈ GT := mTE (sE_2_11 (mc10 List.mem_cons_self)) rfl
theorem wt_427 : (Jvm.Cond.fieldLink "java/lang/String" (1053 : Nat) "jdk/internal/util/Preconditions" "SIOOBE_FORMATTER" "Ljava/util/function/BiFunction;") ∈ GT := mTE (sE_2_11 (mc11 List.mem_cons_self)) rfl
theorem wt_429 : (Jvm.Cond.methodLink "java/lang/String" (1059 : Nat) ({ cls := "jdk/internal/util/Preconditions", name := "checkIndex", desc := "(IILjava/util/function/BiFunction;)I" } : Jvm.MethodName)) ∈ GT := mTE (sE_2_11 (mc13 List.mem_cons_self)) rfl
theorem wt_430 : (Jvm.Cond.static ({ cls := "jdk/internal/util/Preconditions", name := "checkIndex", desc := "(IILjava/util/function/BiFunction;)I" } : Jvm.MethodName)) ∈ GT := mTE (sE_2_11 (mc14 List.mem_cons_self)) rfl
theorem wt_431 : (Jvm.Cond.code ({ cls := "jdk/internal/util/Preconditions", name := "checkIndex", desc := "(IILjava/util/function/BiFunction;)I" } : Jvm.MethodName) prog_20_method_11_code (3 : Nat) (Option.some Jvm.ClassFile.FieldType.int)) ∈ GT := mTE (sE_2_11 (mc15 List.mem_cons_self)) rfl
theorem wt_451 : (Jvm.Cond.methodLink "AsleepPass$Reader" (98 : Nat) ({ cls := "AsleepPass$Reader", name := "readStart", desc := "()Z" } : Jvm.MethodName)) ∈ GT := mTE (sE_2_13 (mc3 List.mem_cons_self)) rfl
theorem wt_453 : (Jvm.Cond.instanceMethod ({ cls := "AsleepPass$Reader", name := "readStart", desc := "()Z" } : Jvm.MethodName)) ∈ GT := mTE (sE_2_13 (mc5 List.mem_cons_self)) rfl
theorem wt_454 : (Jvm.Cond.code ({ cls := "AsleepPass$Reader", name := "readStart", desc := "()Z" } : Jvm.MethodName) prog_7_method_8_code (1 : Nat) (Option.some Jvm.ClassFile.FieldType.boolean)) ∈ GT := mTE (sE_2_13 (mc6 List.mem_cons_self)) rfl
theorem wt_455 : (Jvm.Cond.methodLink "AsleepPass$Reader" (116 : Nat) ({ cls := "AsleepPass$Reader", name := "nextNumber", desc := "(II)Z" } : Jvm.MethodName)) ∈ GT := mTE (sE_2_13 (mc7 List.mem_cons_self)) rfl
theorem wt_457 : (Jvm.Cond.instanceMethod ({ cls := "AsleepPass$Reader", name := "nextNumber", desc := "(II)Z" } : Jvm.MethodName)) ∈ GT := mTE (sE_2_13 (mc9 List.mem_cons_self)) rfl
theorem wt_458 : (Jvm.Cond.code ({ cls := "AsleepPass$Reader", name := "nextNumber", desc := "(II)Z" } : Jvm.MethodName) prog_7_method_13_code (4 : Nat) (Option.some Jvm.ClassFile.FieldType.boolean)) ∈ GT := mTE (sE_2_13 (mc10 List.mem_cons_self)) rfl
theorem wt_459 : (Jvm.Cond.methodLink "AsleepPass$Reader" (119 : Nat) ({ cls := "AsleepPass$Reader", name := "value", desc := "()I" } : Jvm.MethodName)) ∈ GT := mTE (sE_2_13 (mc11 List.mem_cons_self)) rfl
theorem wt_461 : (Jvm.Cond.instanceMethod ({ cls := "AsleepPass$Reader", name := "value", desc := "()I" } : Jvm.MethodName)) ∈ GT := mTE (sE_2_13 (mc13 List.mem_cons_self)) rfl
theorem wt_462 : (Jvm.Cond.code ({ cls := "AsleepPass$Reader", name := "value", desc := "()I" } : Jvm.MethodName) prog_7_method_15_code (3 : Nat) (Option.some Jvm.ClassFile.FieldType.int)) ∈ GT := mTE (sE_2_13 (mc14 List.mem_cons_self)) rfl
theorem wt_463 : (Jvm.Cond.methodLink "AsleepPass$Reader" (126 : Nat) ({ cls := "AsleepPass$Reader", name := "nextStop", desc := "()Z" } : Jvm.MethodName)) ∈ GT := mTE (sE_2_13 (mc15 List.mem_cons_self)) rfl
theorem wt_465 : (Jvm.Cond.instanceMethod ({ cls := "AsleepPass$Reader", name := "nextStop", desc := "()Z" } : Jvm.MethodName)) ∈ GT := mTE (sE_2_14 (mc1 List.mem_cons_self)) rfl
theorem wt_466 : (Jvm.Cond.code ({ cls := "AsleepPass$Reader", name := "nextStop", desc := "()Z" } : Jvm.MethodName) prog_7_method_14_code (1 : Nat) (Option.some Jvm.ClassFile.FieldType.boolean)) ∈ GT := mTE (sE_2_14 (mc2 List.mem_cons_self)) rfl
theorem wt_468 : (Jvm.Cond.methodLink "AsleepPass$Reader" (103 : Nat) ({ cls := "AsleepPass$Reader", name := "readStretch", desc := "()Z" } : Jvm.MethodName)) ∈ GT := mTE (sE_2_14 (mc4 List.mem_cons_self)) rfl
theorem wt_470 : (Jvm.Cond.instanceMethod ({ cls := "AsleepPass$Reader", name := "readStretch", desc := "()Z" } : Jvm.MethodName)) ∈ GT := mTE (sE_2_14 (mc6 List.mem_cons_self)) rfl
theorem wt_471 : (Jvm.Cond.code ({ cls := "AsleepPass$Reader", name := "readStretch", desc := "()Z" } : Jvm.MethodName) prog_7_method_9_code (2 : Nat) (Option.some Jvm.ClassFile.FieldType.boolean)) ∈ GT := mTE (sE_2_14 (mc7 List.mem_cons_self)) rfl
theorem wn_472 : (Jvm.Cond.methodLinkNest "AsleepPass$Reader" (132 : Nat) ({ cls := "AsleepPass$Way", name := "addStretch", desc := "(II)V" } : Jvm.MethodName) "AsleepPass") ∈ NT := mNE (sE_2_14 (mc8 List.mem_cons_self)) rfl
theorem wt_474 : (Jvm.Cond.instanceMethod ({ cls := "AsleepPass$Way", name := "addStretch", desc := "(II)V" } : Jvm.MethodName)) ∈ GT := mTE (sE_2_14 (mc10 List.mem_cons_self)) rfl
theorem wt_475 : (Jvm.Cond.code ({ cls := "AsleepPass$Way", name := "addStretch", desc := "(II)V" } : Jvm.MethodName) prog_11_method_6_code (3 : Nat) (Option.none : Option Jvm.ClassFile.FieldType)) ∈ GT := mTE (sE_2_14 (mc11 List.mem_cons_self)) rfl
theorem wt_477 : (Jvm.Cond.methodLink "AsleepPass$Reader" (108 : Nat) ({ cls := "AsleepPass$Reader", name := "readBearer", desc := "()Z" } : Jvm.MethodName)) ∈ GT := mTE (sE_2_14 (mc13 List.mem_cons_self)) rfl
theorem wt_479 : (Jvm.Cond.instanceMethod ({ cls := "AsleepPass$Reader", name := "readBearer", desc := "()Z" } : Jvm.MethodName)) ∈ GT := mTE (sE_2_14 (mc15 List.mem_cons_self)) rfl
theorem wt_480 : (Jvm.Cond.code ({ cls := "AsleepPass$Reader", name := "readBearer", desc := "()Z" } : Jvm.MethodName) prog_7_method_10_code (3 : Nat) (Option.some Jvm.ClassFile.FieldType.boolean)) ∈ GT := mTE (sE_3_0 List.mem_cons_self) rfl
theorem wt_481 : (Jvm.Cond.methodLink "AsleepPass$Reader" (139 : Nat) ({ cls := "AsleepPass$Reader", name := "kind", desc := "()I" } : Jvm.MethodName)) ∈ GT := mTE (sE_3_0 (mc1 List.mem_cons_self)) rfl
theorem wt_483 : (Jvm.Cond.instanceMethod ({ cls := "AsleepPass$Reader", name := "kind", desc := "()I" } : Jvm.MethodName)) ∈ GT := mTE (sE_3_0 (mc3 List.mem_cons_self)) rfl
theorem wt_484 : (Jvm.Cond.code ({ cls := "AsleepPass$Reader", name := "kind", desc := "()I" } : Jvm.MethodName) prog_7_method_12_code (1 : Nat) (Option.some Jvm.ClassFile.FieldType.int)) ∈ GT := mTE (sE_3_0 (mc4 List.mem_cons_self)) rfl
theorem wn_491 : (Jvm.Cond.methodLinkNest "AsleepPass$Reader" (142 : Nat) ({ cls := "AsleepPass$Way", name := "addBearer", desc := "(III)V" } : Jvm.MethodName) "AsleepPass") ∈ NT := mNE (sE_3_0 (mc11 List.mem_cons_self)) rfl
theorem wt_493 : (Jvm.Cond.instanceMethod ({ cls := "AsleepPass$Way", name := "addBearer", desc := "(III)V" } : Jvm.MethodName)) ∈ GT := mTE (sE_3_0 (mc13 List.mem_cons_self)) rfl
theorem wt_494 : (Jvm.Cond.code ({ cls := "AsleepPass$Way", name := "addBearer", desc := "(III)V" } : Jvm.MethodName) prog_11_method_7_code (4 : Nat) (Option.none : Option Jvm.ClassFile.FieldType)) ∈ GT := mTE (sE_3_0 (mc14 List.mem_cons_self)) rfl
theorem wt_496 : (Jvm.Cond.methodLink "AsleepPass$Reader" (113 : Nat) ({ cls := "AsleepPass$Reader", name := "readCarry", desc := "()Z" } : Jvm.MethodName)) ∈ GT := mTE (sE_3_1 List.mem_cons_self) rfl
theorem wt_498 : (Jvm.Cond.instanceMethod ({ cls := "AsleepPass$Reader", name := "readCarry", desc := "()Z" } : Jvm.MethodName)) ∈ GT := mTE (sE_3_1 (mc2 List.mem_cons_self)) rfl
theorem wt_499 : (Jvm.Cond.code ({ cls := "AsleepPass$Reader", name := "readCarry", desc := "()Z" } : Jvm.MethodName) prog_7_method_11_code (3 : Nat) (Option.some Jvm.ClassFile.FieldType.boolean)) ∈ GT := mTE (sE_3_1 (mc3 List.mem_cons_self)) rfl
theorem wt_500 : (Jvm.Cond.methodLink "AsleepPass$Reader" (150 : Nat) ({ cls := "java/lang/Math", name := "max", desc := "(II)I" } : Jvm.MethodName)) ∈ GT := mTE (sE_3_1 (mc4 List.mem_cons_self)) rfl
theorem wt_501 : (Jvm.Cond.static ({ cls := "java/lang/Math", name := "max", desc := "(II)I" } : Jvm.MethodName)) ∈ GT := mTE (sE_3_1 (mc5 List.mem_cons_self)) rfl
theorem wt_502 : (Jvm.Cond.code ({ cls := "java/lang/Math", name := "max", desc := "(II)I" } : Jvm.MethodName) prog_15_method_65_code (2 : Nat) (Option.some Jvm.ClassFile.FieldType.int)) ∈ GT := mTE (sE_3_1 (mc6 List.mem_cons_self)) rfl
theorem wt_503 : (Jvm.Cond.methodLink "AsleepPass$Reader" (48 : Nat) ({ cls := "AsleepPass$Reader", name := "lookBehindAll", desc := "()V" } : Jvm.MethodName)) ∈ GT := mTE (sE_3_1 (mc7 List.mem_cons_self)) rfl
theorem wt_505 : (Jvm.Cond.instanceMethod ({ cls := "AsleepPass$Reader", name := "lookBehindAll", desc := "()V" } : Jvm.MethodName)) ∈ GT := mTE (sE_3_1 (mc9 List.mem_cons_self)) rfl
theorem wt_506 : (Jvm.Cond.code ({ cls := "AsleepPass$Reader", name := "lookBehindAll", desc := "()V" } : Jvm.MethodName) prog_7_method_16_code (1 : Nat) (Option.none : Option Jvm.ClassFile.FieldType)) ∈ GT := mTE (sE_3_1 (mc10 List.mem_cons_self)) rfl
theorem wn_507 : (Jvm.Cond.methodLinkNest "AsleepPass" (112 : Nat) ({ cls := "AsleepPass$Way", name := "copyOf", desc := "(LAsleepPass$Way;)V" } : Jvm.MethodName) "AsleepPass") ∈ NT := mNE (sE_3_1 (mc11 List.mem_cons_self)) rfl
theorem wt_509 : (Jvm.Cond.instanceMethod ({ cls := "AsleepPass$Way", name := "copyOf", desc := "(LAsleepPass$Way;)V" } : Jvm.MethodName)) ∈ GT := mTE (sE_3_1 (mc13 List.mem_cons_self)) rfl
theorem wt_510 : (Jvm.Cond.code ({ cls := "AsleepPass$Way", name := "copyOf", desc := "(LAsleepPass$Way;)V" } : Jvm.MethodName) prog_11_method_3_code (2 : Nat) (Option.none : Option Jvm.ClassFile.FieldType)) ∈ GT := mTE (sE_3_1 (mc14 List.mem_cons_self)) rfl
theorem wt_511 : (Jvm.Cond.methodLink "AsleepPass$Way" (40 : Nat) ({ cls := "java/lang/System", name := "arraycopy", desc := "(Ljava/lang/Object;ILjava/lang/Object;II)V" } : Jvm.MethodName)) ∈ GT := mTE (sE_3_1 (mc15 List.mem_cons_self)) rfl
theorem wt_512 : (Jvm.Cond.static ({ cls := "java/lang/System", name := "arraycopy", desc := "(Ljava/lang/Object;ILjava/lang/Object;II)V" } : Jvm.MethodName)) ∈ GT := mTE (sE_3_2 List.mem_cons_self) rfl
theorem wt_513 : (Jvm.Cond.native ({ cls := "java/lang/System", name := "arraycopy", desc := "(Ljava/lang/Object;ILjava/lang/Object;II)V" } : Jvm.MethodName)) ∈ GT := mTE (sE_3_2 (mc1 List.mem_cons_self)) rfl
theorem wt_515 : (Jvm.Cond.methodLink "AsleepPassLaw" (30 : Nat) ({ cls := "AsleepPass", name := "fault", desc := "()I" } : Jvm.MethodName)) ∈ GT := mTE (sE_3_2 (mc3 List.mem_cons_self)) rfl
theorem wt_516 : (Jvm.Cond.instanceMethod ({ cls := "AsleepPass", name := "fault", desc := "()I" } : Jvm.MethodName)) ∈ GT := mTE (sE_3_2 (mc4 List.mem_cons_self)) rfl
theorem wt_517 : (Jvm.Cond.selects "AsleepPass" ({ cls := "AsleepPass", name := "fault", desc := "()I" } : Jvm.MethodName) ({ cls := "AsleepPass", name := "fault", desc := "()I" } : Jvm.MethodName)) ∈ GT := mTE (sE_3_2 (mc5 List.mem_cons_self)) rfl
theorem wt_518 : (Jvm.Cond.code ({ cls := "AsleepPass", name := "fault", desc := "()I" } : Jvm.MethodName) prog_1_method_5_code (1 : Nat) (Option.some Jvm.ClassFile.FieldType.int)) ∈ GT := mTE (sE_3_2 (mc6 List.mem_cons_self)) rfl
theorem wt_519 : (Jvm.Cond.methodLink "AsleepPassLaw" (34 : Nat) ({ cls := "AsleepPass", name := "rule", desc := "(I)I" } : Jvm.MethodName)) ∈ GT := mTE (sE_3_2 (mc7 List.mem_cons_self)) rfl
theorem wt_520 : (Jvm.Cond.instanceMethod ({ cls := "AsleepPass", name := "rule", desc := "(I)I" } : Jvm.MethodName)) ∈ GT := mTE (sE_3_2 (mc8 List.mem_cons_self)) rfl
theorem wt_521 : (Jvm.Cond.selects "AsleepPass" ({ cls := "AsleepPass", name := "rule", desc := "(I)I" } : Jvm.MethodName) ({ cls := "AsleepPass", name := "rule", desc := "(I)I" } : Jvm.MethodName)) ∈ GT := mTE (sE_3_2 (mc9 List.mem_cons_self)) rfl
theorem wt_522 : (Jvm.Cond.code ({ cls := "AsleepPass", name := "rule", desc := "(I)I" } : Jvm.MethodName) prog_1_method_6_code (2 : Nat) (Option.some Jvm.ClassFile.FieldType.int)) ∈ GT := mTE (sE_3_2 (mc10 List.mem_cons_self)) rfl
theorem wt_523 : (Jvm.Cond.methodLink "AsleepPassLaw" (38 : Nat) ({ cls := "AsleepPass", name := "stretch", desc := "(II)I" } : Jvm.MethodName)) ∈ GT := mTE (sE_3_2 (mc11 List.mem_cons_self)) rfl
theorem wt_524 : (Jvm.Cond.instanceMethod ({ cls := "AsleepPass", name := "stretch", desc := "(II)I" } : Jvm.MethodName)) ∈ GT := mTE (sE_3_2 (mc12 List.mem_cons_self)) rfl
theorem wt_525 : (Jvm.Cond.selects "AsleepPass" ({ cls := "AsleepPass", name := "stretch", desc := "(II)I" } : Jvm.MethodName) ({ cls := "AsleepPass", name := "stretch", desc := "(II)I" } : Jvm.MethodName)) ∈ GT := mTE (sE_3_2 (mc13 List.mem_cons_self)) rfl
theorem wt_526 : (Jvm.Cond.code ({ cls := "AsleepPass", name := "stretch", desc := "(II)I" } : Jvm.MethodName) prog_1_method_7_code (3 : Nat) (Option.some Jvm.ClassFile.FieldType.int)) ∈ GT := mTE (sE_3_2 (mc14 List.mem_cons_self)) rfl
theorem wn_527 : (Jvm.Cond.methodLinkNest "AsleepPass" (132 : Nat) ({ cls := "AsleepPass$Way", name := "hasStretch", desc := "(I)Z" } : Jvm.MethodName) "AsleepPass") ∈ NT := mNE (sE_3_2 (mc15 List.mem_cons_self)) rfl
theorem wt_529 : (Jvm.Cond.instanceMethod ({ cls := "AsleepPass$Way", name := "hasStretch", desc := "(I)Z" } : Jvm.MethodName)) ∈ GT := mTE (sE_3_3 (mc1 List.mem_cons_self)) rfl
theorem wt_530 : (Jvm.Cond.code ({ cls := "AsleepPass$Way", name := "hasStretch", desc := "(I)Z" } : Jvm.MethodName) prog_11_method_4_code (2 : Nat) (Option.some Jvm.ClassFile.FieldType.boolean)) ∈ GT := mTE (sE_3_3 (mc2 List.mem_cons_self)) rfl
theorem wt_531 : (Jvm.Cond.methodLink "AsleepPassLaw" (43 : Nat) ({ cls := "AsleepPass", name := "bearer", desc := "(II)I" } : Jvm.MethodName)) ∈ GT := mTE (sE_3_3 (mc3 List.mem_cons_self)) rfl
theorem wt_532 : (Jvm.Cond.instanceMethod ({ cls := "AsleepPass", name := "bearer", desc := "(II)I" } : Jvm.MethodName)) ∈ GT := mTE (sE_3_3 (mc4 List.mem_cons_self)) rfl
theorem wt_533 : (Jvm.Cond.selects "AsleepPass" ({ cls := "AsleepPass", name := "bearer", desc := "(II)I" } : Jvm.MethodName) ({ cls := "AsleepPass", name := "bearer", desc := "(II)I" } : Jvm.MethodName)) ∈ GT := mTE (sE_3_3 (mc5 List.mem_cons_self)) rfl
theorem wt_534 : (Jvm.Cond.code ({ cls := "AsleepPass", name := "bearer", desc := "(II)I" } : Jvm.MethodName) prog_1_method_8_code (3 : Nat) (Option.some Jvm.ClassFile.FieldType.int)) ∈ GT := mTE (sE_3_3 (mc6 List.mem_cons_self)) rfl
theorem wn_535 : (Jvm.Cond.methodLinkNest "AsleepPass" (146 : Nat) ({ cls := "AsleepPass$Way", name := "hasBearer", desc := "(I)Z" } : Jvm.MethodName) "AsleepPass") ∈ NT := mNE (sE_3_3 (mc7 List.mem_cons_self)) rfl
theorem wt_537 : (Jvm.Cond.instanceMethod ({ cls := "AsleepPass$Way", name := "hasBearer", desc := "(I)Z" } : Jvm.MethodName)) ∈ GT := mTE (sE_3_3 (mc9 List.mem_cons_self)) rfl
theorem wt_538 : (Jvm.Cond.code ({ cls := "AsleepPass$Way", name := "hasBearer", desc := "(I)Z" } : Jvm.MethodName) prog_11_method_5_code (2 : Nat) (Option.some Jvm.ClassFile.FieldType.boolean)) ∈ GT := mTE (sE_3_3 (mc10 List.mem_cons_self)) rfl
theorem wt_539 : (Jvm.Cond.methodLink "AsleepPassLaw" (47 : Nat) ({ cls := "AsleepPass", name := "start", desc := "(I)I" } : Jvm.MethodName)) ∈ GT := mTE (sE_3_3 (mc11 List.mem_cons_self)) rfl
theorem wt_540 : (Jvm.Cond.instanceMethod ({ cls := "AsleepPass", name := "start", desc := "(I)I" } : Jvm.MethodName)) ∈ GT := mTE (sE_3_3 (mc12 List.mem_cons_self)) rfl
theorem wt_541 : (Jvm.Cond.selects "AsleepPass" ({ cls := "AsleepPass", name := "start", desc := "(I)I" } : Jvm.MethodName) ({ cls := "AsleepPass", name := "start", desc := "(I)I" } : Jvm.MethodName)) ∈ GT := mTE (sE_3_3 (mc13 List.mem_cons_self)) rfl
theorem wt_542 : (Jvm.Cond.code ({ cls := "AsleepPass", name := "start", desc := "(I)I" } : Jvm.MethodName) prog_1_method_9_code (3 : Nat) (Option.some Jvm.ClassFile.FieldType.int)) ∈ GT := mTE (sE_3_3 (mc14 List.mem_cons_self)) rfl
theorem wt_543 : (Jvm.Cond.methodLink "AsleepPassLaw" (51 : Nat) ({ cls := "AsleepPass", name := "noise", desc := "(II)I" } : Jvm.MethodName)) ∈ GT := mTE (sE_3_3 (mc15 List.mem_cons_self)) rfl
theorem wt_544 : (Jvm.Cond.instanceMethod ({ cls := "AsleepPass", name := "noise", desc := "(II)I" } : Jvm.MethodName)) ∈ GT := mTE (sE_3_4 List.mem_cons_self) rfl
theorem wt_545 : (Jvm.Cond.selects "AsleepPass" ({ cls := "AsleepPass", name := "noise", desc := "(II)I" } : Jvm.MethodName) ({ cls := "AsleepPass", name := "noise", desc := "(II)I" } : Jvm.MethodName)) ∈ GT := mTE (sE_3_4 (mc1 List.mem_cons_self)) rfl
theorem wt_546 : (Jvm.Cond.code ({ cls := "AsleepPass", name := "noise", desc := "(II)I" } : Jvm.MethodName) prog_1_method_10_code (3 : Nat) (Option.some Jvm.ClassFile.FieldType.int)) ∈ GT := mTE (sE_3_4 (mc2 List.mem_cons_self)) rfl
theorem wt_547 : (Jvm.Cond.methodLink "AsleepPass" (158 : Nat) ({ cls := "AsleepPass", name := "change", desc := "([III)I" } : Jvm.MethodName)) ∈ GT := mTE (sE_3_4 (mc3 List.mem_cons_self)) rfl
theorem wt_548 : (Jvm.Cond.static ({ cls := "AsleepPass", name := "change", desc := "([III)I" } : Jvm.MethodName)) ∈ GT := mTE (sE_3_4 (mc4 List.mem_cons_self)) rfl
theorem wt_549 : (Jvm.Cond.code ({ cls := "AsleepPass", name := "change", desc := "([III)I" } : Jvm.MethodName) prog_1_method_15_code (4 : Nat) (Option.some Jvm.ClassFile.FieldType.int)) ∈ GT := mTE (sE_3_4 (mc5 List.mem_cons_self)) rfl
theorem wt_550 : (Jvm.Cond.methodLink "AsleepPassLaw" (55 : Nat) ({ cls := "AsleepPass", name := "cold", desc := "(II)I" } : Jvm.MethodName)) ∈ GT := mTE (sE_3_4 (mc6 List.mem_cons_self)) rfl
theorem wt_551 : (Jvm.Cond.instanceMethod ({ cls := "AsleepPass", name := "cold", desc := "(II)I" } : Jvm.MethodName)) ∈ GT := mTE (sE_3_4 (mc7 List.mem_cons_self)) rfl
theorem wt_552 : (Jvm.Cond.selects "AsleepPass" ({ cls := "AsleepPass", name := "cold", desc := "(II)I" } : Jvm.MethodName) ({ cls := "AsleepPass", name := "cold", desc := "(II)I" } : Jvm.MethodName)) ∈ GT := mTE (sE_3_4 (mc8 List.mem_cons_self)) rfl
theorem wt_553 : (Jvm.Cond.code ({ cls := "AsleepPass", name := "cold", desc := "(II)I" } : Jvm.MethodName) prog_1_method_11_code (3 : Nat) (Option.some Jvm.ClassFile.FieldType.int)) ∈ GT := mTE (sE_3_4 (mc9 List.mem_cons_self)) rfl
theorem wt_554 : (Jvm.Cond.methodLink "AsleepPassLaw" (59 : Nat) ({ cls := "AsleepPass", name := "step", desc := "(II)I" } : Jvm.MethodName)) ∈ GT := mTE (sE_3_4 (mc10 List.mem_cons_self)) rfl
theorem wt_555 : (Jvm.Cond.instanceMethod ({ cls := "AsleepPass", name := "step", desc := "(II)I" } : Jvm.MethodName)) ∈ GT := mTE (sE_3_4 (mc11 List.mem_cons_self)) rfl
theorem wt_556 : (Jvm.Cond.selects "AsleepPass" ({ cls := "AsleepPass", name := "step", desc := "(II)I" } : Jvm.MethodName) ({ cls := "AsleepPass", name := "step", desc := "(II)I" } : Jvm.MethodName)) ∈ GT := mTE (sE_3_4 (mc12 List.mem_cons_self)) rfl
theorem wt_557 : (Jvm.Cond.code ({ cls := "AsleepPass", name := "step", desc := "(II)I" } : Jvm.MethodName) prog_1_method_12_code (3 : Nat) (Option.some Jvm.ClassFile.FieldType.int)) ∈ GT := mTE (sE_3_4 (mc13 List.mem_cons_self)) rfl
theorem wt_558 : (Jvm.Cond.methodLink "AsleepPassLaw" (63 : Nat) ({ cls := "AsleepPass", name := "warm", desc := "(II)I" } : Jvm.MethodName)) ∈ GT := mTE (sE_3_4 (mc14 List.mem_cons_self)) rfl
theorem wt_559 : (Jvm.Cond.instanceMethod ({ cls := "AsleepPass", name := "warm", desc := "(II)I" } : Jvm.MethodName)) ∈ GT := mTE (sE_3_4 (mc15 List.mem_cons_self)) rfl
theorem wt_560 : (Jvm.Cond.selects "AsleepPass" ({ cls := "AsleepPass", name := "warm", desc := "(II)I" } : Jvm.MethodName) ({ cls := "AsleepPass", name := "warm", desc := "(II)I" } : Jvm.MethodName)) ∈ GT := mTE (sE_3_5 List.mem_cons_self) rfl
theorem wt_561 : (Jvm.Cond.code ({ cls := "AsleepPass", name := "warm", desc := "(II)I" } : Jvm.MethodName) prog_1_method_13_code (3 : Nat) (Option.some Jvm.ClassFile.FieldType.int)) ∈ GT := mTE (sE_3_5 (mc1 List.mem_cons_self)) rfl
theorem wt_562 : (Jvm.Cond.methodLink "AsleepPassLaw" (67 : Nat) ({ cls := "AsleepPass", name := "put", desc := "(II)I" } : Jvm.MethodName)) ∈ GT := mTE (sE_3_5 (mc2 List.mem_cons_self)) rfl
theorem wt_563 : (Jvm.Cond.instanceMethod ({ cls := "AsleepPass", name := "put", desc := "(II)I" } : Jvm.MethodName)) ∈ GT := mTE (sE_3_5 (mc3 List.mem_cons_self)) rfl
theorem wt_564 : (Jvm.Cond.selects "AsleepPass" ({ cls := "AsleepPass", name := "put", desc := "(II)I" } : Jvm.MethodName) ({ cls := "AsleepPass", name := "put", desc := "(II)I" } : Jvm.MethodName)) ∈ GT := mTE (sE_3_5 (mc4 List.mem_cons_self)) rfl
theorem wt_565 : (Jvm.Cond.code ({ cls := "AsleepPass", name := "put", desc := "(II)I" } : Jvm.MethodName) prog_1_method_14_code (4 : Nat) (Option.some Jvm.ClassFile.FieldType.int)) ∈ GT := mTE (sE_3_5 (mc5 List.mem_cons_self)) rfl
theorem wt_566 : (Jvm.Cond.methodLink "AsleepPassLaw" (71 : Nat) ({ cls := "AsleepPass", name := "harm", desc := "(III)I" } : Jvm.MethodName)) ∈ GT := mTE (sE_3_5 (mc6 List.mem_cons_self)) rfl
theorem wt_567 : (Jvm.Cond.instanceMethod ({ cls := "AsleepPass", name := "harm", desc := "(III)I" } : Jvm.MethodName)) ∈ GT := mTE (sE_3_5 (mc7 List.mem_cons_self)) rfl
theorem wt_568 : (Jvm.Cond.selects "AsleepPass" ({ cls := "AsleepPass", name := "harm", desc := "(III)I" } : Jvm.MethodName) ({ cls := "AsleepPass", name := "harm", desc := "(III)I" } : Jvm.MethodName)) ∈ GT := mTE (sE_3_5 (mc8 List.mem_cons_self)) rfl
theorem wt_569 : (Jvm.Cond.code ({ cls := "AsleepPass", name := "harm", desc := "(III)I" } : Jvm.MethodName) prog_1_method_16_code (4 : Nat) (Option.some Jvm.ClassFile.FieldType.int)) ∈ GT := mTE (sE_3_5 (mc9 List.mem_cons_self)) rfl
theorem wn_570 : (Jvm.Cond.methodLinkNest "AsleepPass" (162 : Nat) ({ cls := "AsleepPass$Way", name := "canHand", desc := "(III)Z" } : Jvm.MethodName) "AsleepPass") ∈ NT := mNE (sE_3_5 (mc10 List.mem_cons_self)) rfl
theorem wt_572 : (Jvm.Cond.instanceMethod ({ cls := "AsleepPass$Way", name := "canHand", desc := "(III)Z" } : Jvm.MethodName)) ∈ GT := mTE (sE_3_5 (mc12 List.mem_cons_self)) rfl
theorem wt_573 : (Jvm.Cond.code ({ cls := "AsleepPass$Way", name := "canHand", desc := "(III)Z" } : Jvm.MethodName) prog_11_method_8_code (4 : Nat) (Option.some Jvm.ClassFile.FieldType.boolean)) ∈ GT := mTE (sE_3_5 (mc13 List.mem_cons_self)) rfl
theorem wt_574 : (Jvm.Cond.methodLink "AsleepPass$Way" (46 : Nat) ({ cls := "AsleepPass$Way", name := "hasStretch", desc := "(I)Z" } : Jvm.MethodName)) ∈ GT := mTE (sE_3_5 (mc14 List.mem_cons_self)) rfl
theorem wt_575 : (Jvm.Cond.methodLink "AsleepPass$Way" (50 : Nat) ({ cls := "AsleepPass$Way", name := "hasBearer", desc := "(I)Z" } : Jvm.MethodName)) ∈ GT := mTE (sE_3_5 (mc15 List.mem_cons_self)) rfl
theorem wn_576 : (Jvm.Cond.methodLinkNest "AsleepPass" (166 : Nat) ({ cls := "AsleepPass$Way", name := "harmBy", desc := "(III)I" } : Jvm.MethodName) "AsleepPass") ∈ NT := mNE (sE_3_6 List.mem_cons_self) rfl
theorem wt_578 : (Jvm.Cond.instanceMethod ({ cls := "AsleepPass$Way", name := "harmBy", desc := "(III)I" } : Jvm.MethodName)) ∈ GT := mTE (sE_3_6 (mc2 List.mem_cons_self)) rfl
theorem wt_579 : (Jvm.Cond.code ({ cls := "AsleepPass$Way", name := "harmBy", desc := "(III)I" } : Jvm.MethodName) prog_11_method_9_code (4 : Nat) (Option.some Jvm.ClassFile.FieldType.int)) ∈ GT := mTE (sE_3_6 (mc3 List.mem_cons_self)) rfl
theorem wt_580 : (Jvm.Cond.methodLink "AsleepPass$Way" (53 : Nat) ({ cls := "AsleepPass$Way", name := "canHand", desc := "(III)Z" } : Jvm.MethodName)) ∈ GT := mTE (sE_3_6 (mc4 List.mem_cons_self)) rfl
theorem wt_581 : (Jvm.Cond.methodLink "AsleepPass$Way" (57 : Nat) ({ cls := "AsleepPass$Way", name := "noiseBy", desc := "(II)I" } : Jvm.MethodName)) ∈ GT := mTE (sE_3_6 (mc5 List.mem_cons_self)) rfl
theorem wt_583 : (Jvm.Cond.instanceMethod ({ cls := "AsleepPass$Way", name := "noiseBy", desc := "(II)I" } : Jvm.MethodName)) ∈ GT := mTE (sE_3_6 (mc7 List.mem_cons_self)) rfl
theorem wt_584 : (Jvm.Cond.code ({ cls := "AsleepPass$Way", name := "noiseBy", desc := "(II)I" } : Jvm.MethodName) prog_11_method_10_code (4 : Nat) (Option.some Jvm.ClassFile.FieldType.int)) ∈ GT := mTE (sE_3_6 (mc8 List.mem_cons_self)) rfl
theorem wt_585 : (Jvm.Cond.methodLink "AsleepPass$Way" (72 : Nat) ({ cls := "java/lang/Math", name := "max", desc := "(II)I" } : Jvm.MethodName)) ∈ GT := mTE (sE_3_6 (mc9 List.mem_cons_self)) rfl
theorem wt_586 : (Jvm.Cond.methodLink "AsleepPass$Way" (61 : Nat) ({ cls := "AsleepPass$Way", name := "coldBy", desc := "(II)I" } : Jvm.MethodName)) ∈ GT := mTE (sE_3_6 (mc10 List.mem_cons_self)) rfl
theorem wt_588 : (Jvm.Cond.instanceMethod ({ cls := "AsleepPass$Way", name := "coldBy", desc := "(II)I" } : Jvm.MethodName)) ∈ GT := mTE (sE_3_6 (mc12 List.mem_cons_self)) rfl
theorem wt_589 : (Jvm.Cond.code ({ cls := "AsleepPass$Way", name := "coldBy", desc := "(II)I" } : Jvm.MethodName) prog_11_method_11_code (4 : Nat) (Option.some Jvm.ClassFile.FieldType.int)) ∈ GT := mTE (sE_3_6 (mc13 List.mem_cons_self)) rfl
theorem wt_590 : (Jvm.Cond.methodLink "AsleepPass$Way" (64 : Nat) ({ cls := "AsleepPass$Way", name := "joltBy", desc := "(II)I" } : Jvm.MethodName)) ∈ GT := mTE (sE_3_6 (mc14 List.mem_cons_self)) rfl
theorem wt_592 : (Jvm.Cond.instanceMethod ({ cls := "AsleepPass$Way", name := "joltBy", desc := "(II)I" } : Jvm.MethodName)) ∈ GT := mTE (sE_3_7 List.mem_cons_self) rfl
theorem wt_593 : (Jvm.Cond.code ({ cls := "AsleepPass$Way", name := "joltBy", desc := "(II)I" } : Jvm.MethodName) prog_11_method_12_code (4 : Nat) (Option.some Jvm.ClassFile.FieldType.int)) ∈ GT := mTE (sE_3_7 (mc1 List.mem_cons_self)) rfl
theorem wt_594 : (Jvm.Cond.methodLink "AsleepPass$Way" (75 : Nat) ({ cls := "java/lang/Math", name := "abs", desc := "(I)I" } : Jvm.MethodName)) ∈ GT := mTE (sE_3_7 (mc2 List.mem_cons_self)) rfl
theorem wt_595 : (Jvm.Cond.static ({ cls := "java/lang/Math", name := "abs", desc := "(I)I" } : Jvm.MethodName)) ∈ GT := mTE (sE_3_7 (mc3 List.mem_cons_self)) rfl
theorem wt_596 : (Jvm.Cond.code ({ cls := "java/lang/Math", name := "abs", desc := "(I)I" } : Jvm.MethodName) prog_15_method_59_code (1 : Nat) (Option.some Jvm.ClassFile.FieldType.int)) ∈ GT := mTE (sE_3_7 (mc4 List.mem_cons_self)) rfl
theorem wt_597 : (Jvm.Cond.methodLink "AsleepPass$Way" (67 : Nat) ({ cls := "java/lang/Math", name := "min", desc := "(II)I" } : Jvm.MethodName)) ∈ GT := mTE (sE_3_7 (mc5 List.mem_cons_self)) rfl
theorem wt_598 : (Jvm.Cond.static ({ cls := "java/lang/Math", name := "min", desc := "(II)I" } : Jvm.MethodName)) ∈ GT := mTE (sE_3_7 (mc6 List.mem_cons_self)) rfl
theorem wt_599 : (Jvm.Cond.code ({ cls := "java/lang/Math", name := "min", desc := "(II)I" } : Jvm.MethodName) prog_15_method_69_code (2 : Nat) (Option.some Jvm.ClassFile.FieldType.int)) ∈ GT := mTE (sE_3_7 (mc7 List.mem_cons_self)) rfl
theorem wt_600 : (Jvm.Cond.methodLink "AsleepPassLaw" (76 : Nat) ({ cls := "AsleepPass", name := "wakes", desc := "(I)J" } : Jvm.MethodName)) ∈ GT := mTE (sE_3_7 (mc8 List.mem_cons_self)) rfl
theorem wt_601 : (Jvm.Cond.instanceMethod ({ cls := "AsleepPass", name := "wakes", desc := "(I)J" } : Jvm.MethodName)) ∈ GT := mTE (sE_3_7 (mc9 List.mem_cons_self)) rfl
theorem wt_602 : (Jvm.Cond.selects "AsleepPass" ({ cls := "AsleepPass", name := "wakes", desc := "(I)J" } : Jvm.MethodName) ({ cls := "AsleepPass", name := "wakes", desc := "(I)J" } : Jvm.MethodName)) ∈ GT := mTE (sE_3_7 (mc10 List.mem_cons_self)) rfl
theorem wt_603 : (Jvm.Cond.code ({ cls := "AsleepPass", name := "wakes", desc := "(I)J" } : Jvm.MethodName) prog_1_method_17_code (2 : Nat) (Option.some Jvm.ClassFile.FieldType.long)) ∈ GT := mTE (sE_3_7 (mc11 List.mem_cons_self)) rfl
theorem wt_604 : (Jvm.Cond.methodLink "AsleepPass" (170 : Nat) ({ cls := "AsleepPass", name := "isFractionPart", desc := "(I)Z" } : Jvm.MethodName)) ∈ GT := mTE (sE_3_7 (mc12 List.mem_cons_self)) rfl
theorem wt_605 : (Jvm.Cond.static ({ cls := "AsleepPass", name := "isFractionPart", desc := "(I)Z" } : Jvm.MethodName)) ∈ GT := mTE (sE_3_7 (mc13 List.mem_cons_self)) rfl
theorem wt_606 : (Jvm.Cond.code ({ cls := "AsleepPass", name := "isFractionPart", desc := "(I)Z" } : Jvm.MethodName) prog_1_method_43_code (1 : Nat) (Option.some Jvm.ClassFile.FieldType.boolean)) ∈ GT := mTE (sE_3_7 (mc14 List.mem_cons_self)) rfl
theorem wt_607 : (Jvm.Cond.constantLong "AsleepPass" (173 : Nat) (-1 : Int64)) ∈ GT := mTE (sE_3_7 (mc15 List.mem_cons_self)) rfl
theorem wn_608 : (Jvm.Cond.methodLinkNest "AsleepPass" (175 : Nat) ({ cls := "AsleepPass$Odds", name := "waking", desc := "(LAsleepPass$Way;II)J" } : Jvm.MethodName) "AsleepPass") ∈ NT := mNE (sE_3_8 List.mem_cons_self) rfl
theorem wt_610 : (Jvm.Cond.instanceMethod ({ cls := "AsleepPass$Odds", name := "waking", desc := "(LAsleepPass$Way;II)J" } : Jvm.MethodName)) ∈ GT := mTE (sE_3_8 (mc2 List.mem_cons_self)) rfl
theorem wt_611 : (Jvm.Cond.code ({ cls := "AsleepPass$Odds", name := "waking", desc := "(LAsleepPass$Way;II)J" } : Jvm.MethodName) prog_6_method_2_code (5 : Nat) (Option.some Jvm.ClassFile.FieldType.long)) ∈ GT := mTE (sE_3_8 (mc3 List.mem_cons_self)) rfl
theorem wt_612 : (Jvm.Cond.methodLink "AsleepPass$Odds" (28 : Nat) ({ cls := "AsleepPass$Odds", name := "begin", desc := "(I)V" } : Jvm.MethodName)) ∈ GT := mTE (sE_3_8 (mc4 List.mem_cons_self)) rfl
theorem wt_614 : (Jvm.Cond.instanceMethod ({ cls := "AsleepPass$Odds", name := "begin", desc := "(I)V" } : Jvm.MethodName)) ∈ GT := mTE (sE_3_8 (mc6 List.mem_cons_self)) rfl
theorem wt_615 : (Jvm.Cond.code ({ cls := "AsleepPass$Odds", name := "begin", desc := "(I)V" } : Jvm.MethodName) prog_6_method_3_code (3 : Nat) (Option.none : Option Jvm.ClassFile.FieldType)) ∈ GT := mTE (sE_3_8 (mc7 List.mem_cons_self)) rfl
theorem wt_616 : (Jvm.Cond.methodLink "AsleepPass$Odds" (32 : Nat) ({ cls := "AsleepPass$Odds", name := "deepen", desc := "()V" } : Jvm.MethodName)) ∈ GT := mTE (sE_3_8 (mc8 List.mem_cons_self)) rfl
theorem wt_618 : (Jvm.Cond.instanceMethod ({ cls := "AsleepPass$Odds", name := "deepen", desc := "()V" } : Jvm.MethodName)) ∈ GT := mTE (sE_3_8 (mc10 List.mem_cons_self)) rfl
theorem wt_619 : (Jvm.Cond.code ({ cls := "AsleepPass$Odds", name := "deepen", desc := "()V" } : Jvm.MethodName) prog_6_method_6_code (2 : Nat) (Option.none : Option Jvm.ClassFile.FieldType)) ∈ GT := mTE (sE_3_8 (mc11 List.mem_cons_self)) rfl
theorem wt_620 : (Jvm.Cond.methodLink "AsleepPass$Odds" (42 : Nat) ({ cls := "AsleepPass$Odds", name := "takeAhead", desc := "()V" } : Jvm.MethodName)) ∈ GT := mTE (sE_3_8 (mc12 List.mem_cons_self)) rfl
theorem wt_622 : (Jvm.Cond.instanceMethod ({ cls := "AsleepPass$Odds", name := "takeAhead", desc := "()V" } : Jvm.MethodName)) ∈ GT := mTE (sE_3_8 (mc14 List.mem_cons_self)) rfl
theorem wt_623 : (Jvm.Cond.code ({ cls := "AsleepPass$Odds", name := "takeAhead", desc := "()V" } : Jvm.MethodName) prog_6_method_4_code (2 : Nat) (Option.none : Option Jvm.ClassFile.FieldType)) ∈ GT := mTE (sE_3_8 (mc15 List.mem_cons_self)) rfl
theorem wt_624 : (Jvm.Cond.methodLink "AsleepPass$Odds" (47 : Nat) ({ cls := "java/lang/Math", name := "min", desc := "(II)I" } : Jvm.MethodName)) ∈ GT := mTE (sE_3_9 List.mem_cons_self) rfl
theorem wn_625 : (Jvm.Cond.methodLinkNest "AsleepPass$Odds" (35 : Nat) ({ cls := "AsleepPass$Way", name := "harmInOrder", desc := "(I)I" } : Jvm.MethodName) "AsleepPass") ∈ NT := mNE (sE_3_9 (mc1 List.mem_cons_self)) rfl
theorem wt_627 : (Jvm.Cond.instanceMethod ({ cls := "AsleepPass$Way", name := "harmInOrder", desc := "(I)I" } : Jvm.MethodName)) ∈ GT := mTE (sE_3_9 (mc3 List.mem_cons_self)) rfl
theorem wt_628 : (Jvm.Cond.code ({ cls := "AsleepPass$Way", name := "harmInOrder", desc := "(I)I" } : Jvm.MethodName) prog_11_method_13_code (2 : Nat) (Option.some Jvm.ClassFile.FieldType.int)) ∈ GT := mTE (sE_3_9 (mc4 List.mem_cons_self)) rfl
theorem wt_629 : (Jvm.Cond.methodLink "AsleepPass$Way" (79 : Nat) ({ cls := "AsleepPass$Way", name := "harmBy", desc := "(III)I" } : Jvm.MethodName)) ∈ GT := mTE (sE_3_9 (mc5 List.mem_cons_self)) rfl
theorem wt_630 : (Jvm.Cond.methodLink "AsleepPass$Odds" (39 : Nat) ({ cls := "AsleepPass$Odds", name := "pass", desc := "(I)V" } : Jvm.MethodName)) ∈ GT := mTE (sE_3_9 (mc6 List.mem_cons_self)) rfl
theorem wt_632 : (Jvm.Cond.instanceMethod ({ cls := "AsleepPass$Odds", name := "pass", desc := "(I)V" } : Jvm.MethodName)) ∈ GT := mTE (sE_3_9 (mc8 List.mem_cons_self)) rfl
theorem wt_633 : (Jvm.Cond.code ({ cls := "AsleepPass$Odds", name := "pass", desc := "(I)V" } : Jvm.MethodName) prog_6_method_5_code (3 : Nat) (Option.none : Option Jvm.ClassFile.FieldType)) ∈ GT := mTE (sE_3_9 (mc9 List.mem_cons_self)) rfl
theorem wt_634 : (Jvm.Cond.constantLong "AsleepPass$Odds" (45 : Nat) (20 : Int64)) ∈ GT := mTE (sE_3_9 (mc10 List.mem_cons_self)) rfl
theorem wt_635 : (Jvm.Cond.methodLink "AsleepPass" (183 : Nat) ({ cls := "AsleepPass", name := "fraction", desc := "(JJI)J" } : Jvm.MethodName)) ∈ GT := mTE (sE_3_9 (mc11 List.mem_cons_self)) rfl
theorem wt_636 : (Jvm.Cond.static ({ cls := "AsleepPass", name := "fraction", desc := "(JJI)J" } : Jvm.MethodName)) ∈ GT := mTE (sE_3_9 (mc12 List.mem_cons_self)) rfl
theorem wt_637 : (Jvm.Cond.code ({ cls := "AsleepPass", name := "fraction", desc := "(JJI)J" } : Jvm.MethodName) prog_1_method_47_code (7 : Nat) (Option.some Jvm.ClassFile.FieldType.long)) ∈ GT := mTE (sE_3_9 (mc13 List.mem_cons_self)) rfl
theorem wt_638 : (Jvm.Cond.methodLink "AsleepPass" (318 : Nat) ({ cls := "AsleepPass", name := "commonDivisor", desc := "(JJ)J" } : Jvm.MethodName)) ∈ GT := mTE (sE_3_9 (mc14 List.mem_cons_self)) rfl
theorem wt_639 : (Jvm.Cond.static ({ cls := "AsleepPass", name := "commonDivisor", desc := "(JJ)J" } : Jvm.MethodName)) ∈ GT := mTE (sE_3_9 (mc15 List.mem_cons_self)) rfl
theorem wt_640 : (Jvm.Cond.code ({ cls := "AsleepPass", name := "commonDivisor", desc := "(JJ)J" } : Jvm.MethodName) prog_1_method_48_code (11 : Nat) (Option.some Jvm.ClassFile.FieldType.long)) ∈ GT := mTE (sE_3_10 List.mem_cons_self) rfl
theorem wt_641 : (Jvm.Cond.methodLink "AsleepPassLaw" (81 : Nat) ({ cls := "AsleepPass", name := "awake", desc := "(II)J" } : Jvm.MethodName)) ∈ GT := mTE (sE_3_10 (mc1 List.mem_cons_self)) rfl
theorem wt_642 : (Jvm.Cond.instanceMethod ({ cls := "AsleepPass", name := "awake", desc := "(II)J" } : Jvm.MethodName)) ∈ GT := mTE (sE_3_10 (mc2 List.mem_cons_self)) rfl
theorem wt_643 : (Jvm.Cond.selects "AsleepPass" ({ cls := "AsleepPass", name := "awake", desc := "(II)J" } : Jvm.MethodName) ({ cls := "AsleepPass", name := "awake", desc := "(II)J" } : Jvm.MethodName)) ∈ GT := mTE (sE_3_10 (mc3 List.mem_cons_self)) rfl
theorem wt_644 : (Jvm.Cond.code ({ cls := "AsleepPass", name := "awake", desc := "(II)J" } : Jvm.MethodName) prog_1_method_18_code (3 : Nat) (Option.some Jvm.ClassFile.FieldType.long)) ∈ GT := mTE (sE_3_10 (mc4 List.mem_cons_self)) rfl
theorem wt_645 : (Jvm.Cond.methodLink "AsleepPass" (187 : Nat) ({ cls := "AsleepPass", name := "depth", desc := "(III)J" } : Jvm.MethodName)) ∈ GT := mTE (sE_3_10 (mc5 List.mem_cons_self)) rfl
theorem wt_646 : (Jvm.Cond.instanceMethod ({ cls := "AsleepPass", name := "depth", desc := "(III)J" } : Jvm.MethodName)) ∈ GT := mTE (sE_3_10 (mc6 List.mem_cons_self)) rfl
theorem wt_647 : (Jvm.Cond.selects "AsleepPass" ({ cls := "AsleepPass", name := "depth", desc := "(III)J" } : Jvm.MethodName) ({ cls := "AsleepPass", name := "depth", desc := "(III)J" } : Jvm.MethodName)) ∈ GT := mTE (sE_3_10 (mc7 List.mem_cons_self)) rfl
theorem wt_648 : (Jvm.Cond.code ({ cls := "AsleepPass", name := "depth", desc := "(III)J" } : Jvm.MethodName) prog_1_method_19_code (4 : Nat) (Option.some Jvm.ClassFile.FieldType.long)) ∈ GT := mTE (sE_3_10 (mc8 List.mem_cons_self)) rfl
theorem wt_649 : (Jvm.Cond.methodLink "AsleepPass" (191 : Nat) ({ cls := "AsleepPass", name := "isDepth", desc := "(I)Z" } : Jvm.MethodName)) ∈ GT := mTE (sE_3_10 (mc9 List.mem_cons_self)) rfl
theorem wt_650 : (Jvm.Cond.static ({ cls := "AsleepPass", name := "isDepth", desc := "(I)Z" } : Jvm.MethodName)) ∈ GT := mTE (sE_3_10 (mc10 List.mem_cons_self)) rfl
theorem wt_651 : (Jvm.Cond.code ({ cls := "AsleepPass", name := "isDepth", desc := "(I)Z" } : Jvm.MethodName) prog_1_method_45_code (1 : Nat) (Option.some Jvm.ClassFile.FieldType.boolean)) ∈ GT := mTE (sE_3_10 (mc11 List.mem_cons_self)) rfl
theorem wt_652 : (Jvm.Cond.methodLink "AsleepPassLaw" (86 : Nat) ({ cls := "AsleepPass", name := "depth", desc := "(III)J" } : Jvm.MethodName)) ∈ GT := mTE (sE_3_10 (mc12 List.mem_cons_self)) rfl
theorem wt_653 : (Jvm.Cond.methodLink "AsleepPassLaw" (91 : Nat) ({ cls := "AsleepPass", name := "best", desc := "(I)J" } : Jvm.MethodName)) ∈ GT := mTE (sE_3_10 (mc13 List.mem_cons_self)) rfl
theorem wt_654 : (Jvm.Cond.instanceMethod ({ cls := "AsleepPass", name := "best", desc := "(I)J" } : Jvm.MethodName)) ∈ GT := mTE (sE_3_10 (mc14 List.mem_cons_self)) rfl
theorem wt_655 : (Jvm.Cond.selects "AsleepPass" ({ cls := "AsleepPass", name := "best", desc := "(I)J" } : Jvm.MethodName) ({ cls := "AsleepPass", name := "best", desc := "(I)J" } : Jvm.MethodName)) ∈ GT := mTE (sE_3_10 (mc15 List.mem_cons_self)) rfl
theorem wt_656 : (Jvm.Cond.code ({ cls := "AsleepPass", name := "best", desc := "(I)J" } : Jvm.MethodName) prog_1_method_20_code (2 : Nat) (Option.some Jvm.ClassFile.FieldType.long)) ∈ GT := mTE (sE_3_11 List.mem_cons_self) rfl
theorem wn_657 : (Jvm.Cond.methodLinkNest "AsleepPass" (198 : Nat) ({ cls := "AsleepPass$Choice", name := "plan", desc := "(LAsleepPass$Way;I)V" } : Jvm.MethodName) "AsleepPass") ∈ NT := mNE (sE_3_11 (mc1 List.mem_cons_self)) rfl
theorem wt_659 : (Jvm.Cond.instanceMethod ({ cls := "AsleepPass$Choice", name := "plan", desc := "(LAsleepPass$Way;I)V" } : Jvm.MethodName)) ∈ GT := mTE (sE_3_11 (mc3 List.mem_cons_self)) rfl
theorem wt_660 : (Jvm.Cond.code ({ cls := "AsleepPass$Choice", name := "plan", desc := "(LAsleepPass$Way;I)V" } : Jvm.MethodName) prog_2_method_3_code (5 : Nat) (Option.none : Option Jvm.ClassFile.FieldType)) ∈ GT := mTE (sE_3_11 (mc4 List.mem_cons_self)) rfl
theorem wt_661 : (Jvm.Cond.constantLong "AsleepPass$Choice" (31 : Nat) (20 : Int64)) ∈ GT := mTE (sE_3_11 (mc5 List.mem_cons_self)) rfl
theorem wt_662 : (Jvm.Cond.methodLink "AsleepPass$Choice" (33 : Nat) ({ cls := "AsleepPass$Choice", name := "chooseFrom", desc := "(LAsleepPass$Way;III)V" } : Jvm.MethodName)) ∈ GT := mTE (sE_3_11 (mc6 List.mem_cons_self)) rfl
theorem wt_664 : (Jvm.Cond.instanceMethod ({ cls := "AsleepPass$Choice", name := "chooseFrom", desc := "(LAsleepPass$Way;III)V" } : Jvm.MethodName)) ∈ GT := mTE (sE_3_11 (mc8 List.mem_cons_self)) rfl
theorem wt_665 : (Jvm.Cond.code ({ cls := "AsleepPass$Choice", name := "chooseFrom", desc := "(LAsleepPass$Way;III)V" } : Jvm.MethodName) prog_2_method_4_code (6 : Nat) (Option.none : Option Jvm.ClassFile.FieldType)) ∈ GT := mTE (sE_3_11 (mc9 List.mem_cons_self)) rfl
theorem wt_666 : (Jvm.Cond.methodLink "AsleepPass$Choice" (40 : Nat) ({ cls := "AsleepPass$Choice", name := "slot", desc := "(II)I" } : Jvm.MethodName)) ∈ GT := mTE (sE_3_11 (mc10 List.mem_cons_self)) rfl
theorem wt_667 : (Jvm.Cond.static ({ cls := "AsleepPass$Choice", name := "slot", desc := "(II)I" } : Jvm.MethodName)) ∈ GT := mTE (sE_3_11 (mc11 List.mem_cons_self)) rfl
theorem wt_668 : (Jvm.Cond.code ({ cls := "AsleepPass$Choice", name := "slot", desc := "(II)I" } : Jvm.MethodName) prog_2_method_2_code (2 : Nat) (Option.some Jvm.ClassFile.FieldType.int)) ∈ GT := mTE (sE_3_11 (mc12 List.mem_cons_self)) rfl
theorem wt_669 : (Jvm.Cond.constantLong "AsleepPass$Choice" (44 : Nat) (1152921504606846976 : Int64)) ∈ GT := mTE (sE_3_11 (mc13 List.mem_cons_self)) rfl
theorem wn_670 : (Jvm.Cond.methodLinkNest "AsleepPass$Choice" (46 : Nat) ({ cls := "AsleepPass$Way", name := "harmBy", desc := "(III)I" } : Jvm.MethodName) "AsleepPass") ∈ NT := mNE (sE_3_11 (mc14 List.mem_cons_self)) rfl
theorem wt_671 : (Jvm.Cond.methodLink "AsleepPass$Choice" (50 : Nat) ({ cls := "AsleepPass$Choice", name := "weigh", desc := "(IIII)V" } : Jvm.MethodName)) ∈ GT := mTE (sE_3_11 (mc15 List.mem_cons_self)) rfl
theorem wt_673 : (Jvm.Cond.instanceMethod ({ cls := "AsleepPass$Choice", name := "weigh", desc := "(IIII)V" } : Jvm.MethodName)) ∈ GT := mTE (sE_3_12 (mc1 List.mem_cons_self)) rfl
theorem wt_674 : (Jvm.Cond.code ({ cls := "AsleepPass$Choice", name := "weigh", desc := "(IIII)V" } : Jvm.MethodName) prog_2_method_5_code (12 : Nat) (Option.none : Option Jvm.ClassFile.FieldType)) ∈ GT := mTE (sE_3_12 (mc2 List.mem_cons_self)) rfl
theorem wt_675 : (Jvm.Cond.methodLink "AsleepPass$Choice" (54 : Nat) ({ cls := "java/lang/Math", name := "min", desc := "(II)I" } : Jvm.MethodName)) ∈ GT := mTE (sE_3_12 (mc3 List.mem_cons_self)) rfl
theorem wn_676 : (Jvm.Cond.methodLinkNest "AsleepPass" (202 : Nat) ({ cls := "AsleepPass$Choice", name := "wakingAtFirst", desc := "(LAsleepPass$Way;)J" } : Jvm.MethodName) "AsleepPass") ∈ NT := mNE (sE_3_12 (mc4 List.mem_cons_self)) rfl
theorem wt_678 : (Jvm.Cond.instanceMethod ({ cls := "AsleepPass$Choice", name := "wakingAtFirst", desc := "(LAsleepPass$Way;)J" } : Jvm.MethodName)) ∈ GT := mTE (sE_3_12 (mc6 List.mem_cons_self)) rfl
theorem wt_679 : (Jvm.Cond.code ({ cls := "AsleepPass$Choice", name := "wakingAtFirst", desc := "(LAsleepPass$Way;)J" } : Jvm.MethodName) prog_2_method_6_code (2 : Nat) (Option.some Jvm.ClassFile.FieldType.long)) ∈ GT := mTE (sE_3_12 (mc7 List.mem_cons_self)) rfl
theorem wt_680 : (Jvm.Cond.methodLink "AsleepPassLaw" (95 : Nat) ({ cls := "AsleepPass", name := "next", desc := "(III)I" } : Jvm.MethodName)) ∈ GT := mTE (sE_3_12 (mc8 List.mem_cons_self)) rfl
theorem wt_681 : (Jvm.Cond.instanceMethod ({ cls := "AsleepPass", name := "next", desc := "(III)I" } : Jvm.MethodName)) ∈ GT := mTE (sE_3_12 (mc9 List.mem_cons_self)) rfl
theorem wt_682 : (Jvm.Cond.selects "AsleepPass" ({ cls := "AsleepPass", name := "next", desc := "(III)I" } : Jvm.MethodName) ({ cls := "AsleepPass", name := "next", desc := "(III)I" } : Jvm.MethodName)) ∈ GT := mTE (sE_3_12 (mc10 List.mem_cons_self)) rfl
theorem wt_683 : (Jvm.Cond.code ({ cls := "AsleepPass", name := "next", desc := "(III)I" } : Jvm.MethodName) prog_1_method_21_code (5 : Nat) (Option.some Jvm.ClassFile.FieldType.int)) ∈ GT := mTE (sE_3_12 (mc11 List.mem_cons_self)) rfl
theorem wn_684 : (Jvm.Cond.methodLinkNest "AsleepPass" (211 : Nat) ({ cls := "AsleepPass$Choice", name := "slot", desc := "(II)I" } : Jvm.MethodName) "AsleepPass") ∈ NT := mNE (sE_3_12 (mc12 List.mem_cons_self)) rfl
theorem wt_685 : (Jvm.Cond.methodLink "AsleepPassLaw" (99 : Nat) ({ cls := "AsleepPass", name := "without", desc := "(II)J" } : Jvm.MethodName)) ∈ GT := mTE (sE_3_12 (mc13 List.mem_cons_self)) rfl
theorem wt_686 : (Jvm.Cond.instanceMethod ({ cls := "AsleepPass", name := "without", desc := "(II)J" } : Jvm.MethodName)) ∈ GT := mTE (sE_3_12 (mc14 List.mem_cons_self)) rfl
theorem wt_687 : (Jvm.Cond.selects "AsleepPass" ({ cls := "AsleepPass", name := "without", desc := "(II)J" } : Jvm.MethodName) ({ cls := "AsleepPass", name := "without", desc := "(II)J" } : Jvm.MethodName)) ∈ GT := mTE (sE_3_12 (mc15 List.mem_cons_self)) rfl
theorem wt_688 : (Jvm.Cond.code ({ cls := "AsleepPass", name := "without", desc := "(II)J" } : Jvm.MethodName) prog_1_method_22_code (3 : Nat) (Option.some Jvm.ClassFile.FieldType.long)) ∈ GT := mTE (sE_3_13 List.mem_cons_self) rfl
theorem wt_689 : (Jvm.Cond.constantLong "AsleepPass" (215 : Nat) (-2 : Int64)) ∈ GT := mTE (sE_3_13 (mc1 List.mem_cons_self)) rfl
theorem wt_690 : (Jvm.Cond.methodLink "AsleepPassLaw" (103 : Nat) ({ cls := "AsleepPass", name := "quiet", desc := "(II)J" } : Jvm.MethodName)) ∈ GT := mTE (sE_3_13 (mc2 List.mem_cons_self)) rfl
theorem wt_691 : (Jvm.Cond.instanceMethod ({ cls := "AsleepPass", name := "quiet", desc := "(II)J" } : Jvm.MethodName)) ∈ GT := mTE (sE_3_13 (mc3 List.mem_cons_self)) rfl
theorem wt_692 : (Jvm.Cond.selects "AsleepPass" ({ cls := "AsleepPass", name := "quiet", desc := "(II)J" } : Jvm.MethodName) ({ cls := "AsleepPass", name := "quiet", desc := "(II)J" } : Jvm.MethodName)) ∈ GT := mTE (sE_3_13 (mc4 List.mem_cons_self)) rfl
theorem wt_693 : (Jvm.Cond.code ({ cls := "AsleepPass", name := "quiet", desc := "(II)J" } : Jvm.MethodName) prog_1_method_23_code (10 : Nat) (Option.some Jvm.ClassFile.FieldType.long)) ∈ GT := mTE (sE_3_13 (mc5 List.mem_cons_self)) rfl
theorem wt_694 : (Jvm.Cond.methodLink "AsleepPass" (217 : Nat) ({ cls := "AsleepPass", name := "isAnswerPart", desc := "(I)Z" } : Jvm.MethodName)) ∈ GT := mTE (sE_3_13 (mc6 List.mem_cons_self)) rfl
theorem wt_695 : (Jvm.Cond.static ({ cls := "AsleepPass", name := "isAnswerPart", desc := "(I)Z" } : Jvm.MethodName)) ∈ GT := mTE (sE_3_13 (mc7 List.mem_cons_self)) rfl
theorem wt_696 : (Jvm.Cond.code ({ cls := "AsleepPass", name := "isAnswerPart", desc := "(I)Z" } : Jvm.MethodName) prog_1_method_44_code (1 : Nat) (Option.some Jvm.ClassFile.FieldType.boolean)) ∈ GT := mTE (sE_3_13 (mc8 List.mem_cons_self)) rfl
theorem wt_697 : (Jvm.Cond.methodLink "AsleepPass" (220 : Nat) ({ cls := "java/lang/Integer", name := "bitCount", desc := "(I)I" } : Jvm.MethodName)) ∈ GT := mTE (sE_3_13 (mc9 List.mem_cons_self)) rfl
theorem wt_698 : (Jvm.Cond.static ({ cls := "java/lang/Integer", name := "bitCount", desc := "(I)I" } : Jvm.MethodName)) ∈ GT := mTE (sE_3_13 (mc10 List.mem_cons_self)) rfl
theorem wt_699 : (Jvm.Cond.code ({ cls := "java/lang/Integer", name := "bitCount", desc := "(I)I" } : Jvm.MethodName) prog_14_method_49_code (1 : Nat) (Option.some Jvm.ClassFile.FieldType.int)) ∈ GT := mTE (sE_3_13 (mc11 List.mem_cons_self)) rfl
theorem wt_700 : (Jvm.Cond.constant "java/lang/Integer" (265 : Nat) (1431655765 : Int32)) ∈ GT := mTE (sE_3_13 (mc12 List.mem_cons_self)) rfl
theorem wt_701 : (Jvm.Cond.constant "java/lang/Integer" (266 : Nat) (858993459 : Int32)) ∈ GT := mTE (sE_3_13 (mc13 List.mem_cons_self)) rfl
theorem wt_702 : (Jvm.Cond.constant "java/lang/Integer" (267 : Nat) (252645135 : Int32)) ∈ GT := mTE (sE_3_13 (mc14 List.mem_cons_self)) rfl
theorem wt_703 : (Jvm.Cond.methodLink "AsleepPass" (226 : Nat) ({ cls := "AsleepPass", name := "stopNoises", desc := "(I)V" } : Jvm.MethodName)) ∈ GT := mTE (sE_3_13 (mc15 List.mem_cons_self)) rfl
theorem wt_705 : (Jvm.Cond.instanceMethod ({ cls := "AsleepPass", name := "stopNoises", desc := "(I)V" } : Jvm.MethodName)) ∈ GT := mTE (sE_3_14 (mc1 List.mem_cons_self)) rfl
theorem wt_706 : (Jvm.Cond.code ({ cls := "AsleepPass", name := "stopNoises", desc := "(I)V" } : Jvm.MethodName) prog_1_method_24_code (3 : Nat) (Option.none : Option Jvm.ClassFile.FieldType)) ∈ GT := mTE (sE_3_14 (mc2 List.mem_cons_self)) rfl
theorem wt_707 : (Jvm.Cond.methodLink "AsleepPassLaw" (107 : Nat) ({ cls := "AsleepPass", name := "drop", desc := "(I)J" } : Jvm.MethodName)) ∈ GT := mTE (sE_3_14 (mc3 List.mem_cons_self)) rfl
theorem wt_708 : (Jvm.Cond.instanceMethod ({ cls := "AsleepPass", name := "drop", desc := "(I)J" } : Jvm.MethodName)) ∈ GT := mTE (sE_3_14 (mc4 List.mem_cons_self)) rfl
theorem wt_709 : (Jvm.Cond.selects "AsleepPass" ({ cls := "AsleepPass", name := "drop", desc := "(I)J" } : Jvm.MethodName) ({ cls := "AsleepPass", name := "drop", desc := "(I)J" } : Jvm.MethodName)) ∈ GT := mTE (sE_3_14 (mc5 List.mem_cons_self)) rfl
theorem wt_710 : (Jvm.Cond.code ({ cls := "AsleepPass", name := "drop", desc := "(I)J" } : Jvm.MethodName) prog_1_method_25_code (8 : Nat) (Option.some Jvm.ClassFile.FieldType.long)) ∈ GT := mTE (sE_3_14 (mc6 List.mem_cons_self)) rfl
theorem wt_711 : (Jvm.Cond.methodLink "AsleepPassLaw" (111 : Nat) ({ cls := "AsleepPass", name := "swap", desc := "(I)J" } : Jvm.MethodName)) ∈ GT := mTE (sE_3_14 (mc7 List.mem_cons_self)) rfl
theorem wt_712 : (Jvm.Cond.instanceMethod ({ cls := "AsleepPass", name := "swap", desc := "(I)J" } : Jvm.MethodName)) ∈ GT := mTE (sE_3_14 (mc8 List.mem_cons_self)) rfl
theorem wt_713 : (Jvm.Cond.selects "AsleepPass" ({ cls := "AsleepPass", name := "swap", desc := "(I)J" } : Jvm.MethodName) ({ cls := "AsleepPass", name := "swap", desc := "(I)J" } : Jvm.MethodName)) ∈ GT := mTE (sE_3_14 (mc9 List.mem_cons_self)) rfl
theorem wt_714 : (Jvm.Cond.code ({ cls := "AsleepPass", name := "swap", desc := "(I)J" } : Jvm.MethodName) prog_1_method_26_code (9 : Nat) (Option.some Jvm.ClassFile.FieldType.long)) ∈ GT := mTE (sE_3_14 (mc10 List.mem_cons_self)) rfl
theorem wn_715 : (Jvm.Cond.methodLinkNest "AsleepPass" (230 : Nat) ({ cls := "AsleepPass$Way", name := "exchange", desc := "(II)V" } : Jvm.MethodName) "AsleepPass") ∈ NT := mNE (sE_3_14 (mc11 List.mem_cons_self)) rfl
theorem wt_717 : (Jvm.Cond.instanceMethod ({ cls := "AsleepPass$Way", name := "exchange", desc := "(II)V" } : Jvm.MethodName)) ∈ GT := mTE (sE_3_14 (mc13 List.mem_cons_self)) rfl
theorem wt_718 : (Jvm.Cond.code ({ cls := "AsleepPass$Way", name := "exchange", desc := "(II)V" } : Jvm.MethodName) prog_11_method_14_code (4 : Nat) (Option.none : Option Jvm.ClassFile.FieldType)) ∈ GT := mTE (sE_3_14 (mc14 List.mem_cons_self)) rfl
theorem wt_719 : (Jvm.Cond.methodLink "AsleepPassLaw" (115 : Nat) ({ cls := "AsleepPass", name := "carry", desc := "(II)I" } : Jvm.MethodName)) ∈ GT := mTE (sE_3_14 (mc15 List.mem_cons_self)) rfl
theorem wt_720 : (Jvm.Cond.instanceMethod ({ cls := "AsleepPass", name := "carry", desc := "(II)I" } : Jvm.MethodName)) ∈ GT := mTE (sE_4_0 List.mem_cons_self) rfl
theorem wt_721 : (Jvm.Cond.selects "AsleepPass" ({ cls := "AsleepPass", name := "carry", desc := "(II)I" } : Jvm.MethodName) ({ cls := "AsleepPass", name := "carry", desc := "(II)I" } : Jvm.MethodName)) ∈ GT := mTE (sE_4_0 (mc1 List.mem_cons_self)) rfl
theorem wt_722 : (Jvm.Cond.code ({ cls := "AsleepPass", name := "carry", desc := "(II)I" } : Jvm.MethodName) prog_1_method_27_code (3 : Nat) (Option.some Jvm.ClassFile.FieldType.int)) ∈ GT := mTE (sE_4_0 (mc2 List.mem_cons_self)) rfl
theorem wn_723 : (Jvm.Cond.methodLinkNest "AsleepPass" (234 : Nat) ({ cls := "AsleepPass$Crossing", name := "cross", desc := "(LAsleepPass$Way;I)V" } : Jvm.MethodName) "AsleepPass") ∈ NT := mNE (sE_4_0 (mc3 List.mem_cons_self)) rfl
theorem wt_725 : (Jvm.Cond.instanceMethod ({ cls := "AsleepPass$Crossing", name := "cross", desc := "(LAsleepPass$Way;I)V" } : Jvm.MethodName)) ∈ GT := mTE (sE_4_0 (mc5 List.mem_cons_self)) rfl
theorem wt_726 : (Jvm.Cond.code ({ cls := "AsleepPass$Crossing", name := "cross", desc := "(LAsleepPass$Way;I)V" } : Jvm.MethodName) prog_3_method_2_code (5 : Nat) (Option.none : Option Jvm.ClassFile.FieldType)) ∈ GT := mTE (sE_4_0 (mc6 List.mem_cons_self)) rfl
theorem wt_727 : (Jvm.Cond.constant "AsleepPass$Crossing" (29 : Nat) (1103515245 : Int32)) ∈ GT := mTE (sE_4_0 (mc7 List.mem_cons_self)) rfl
theorem wn_728 : (Jvm.Cond.methodLinkNest "AsleepPass$Crossing" (30 : Nat) ({ cls := "AsleepPass$Way", name := "harmInOrder", desc := "(I)I" } : Jvm.MethodName) "AsleepPass") ∈ NT := mNE (sE_4_0 (mc8 List.mem_cons_self)) rfl
theorem wt_729 : (Jvm.Cond.methodLink "AsleepPass$Crossing" (34 : Nat) ({ cls := "java/lang/Math", name := "min", desc := "(II)I" } : Jvm.MethodName)) ∈ GT := mTE (sE_4_0 (mc9 List.mem_cons_self)) rfl
theorem wt_730 : (Jvm.Cond.methodLink "AsleepPassLaw" (119 : Nat) ({ cls := "AsleepPass", name := "learn", desc := "(IIII)I" } : Jvm.MethodName)) ∈ GT := mTE (sE_4_0 (mc10 List.mem_cons_self)) rfl
theorem wt_731 : (Jvm.Cond.instanceMethod ({ cls := "AsleepPass", name := "learn", desc := "(IIII)I" } : Jvm.MethodName)) ∈ GT := mTE (sE_4_0 (mc11 List.mem_cons_self)) rfl
theorem wt_732 : (Jvm.Cond.selects "AsleepPass" ({ cls := "AsleepPass", name := "learn", desc := "(IIII)I" } : Jvm.MethodName) ({ cls := "AsleepPass", name := "learn", desc := "(IIII)I" } : Jvm.MethodName)) ∈ GT := mTE (sE_4_0 (mc12 List.mem_cons_self)) rfl
theorem wt_733 : (Jvm.Cond.code ({ cls := "AsleepPass", name := "learn", desc := "(IIII)I" } : Jvm.MethodName) prog_1_method_28_code (5 : Nat) (Option.some Jvm.ClassFile.FieldType.int)) ∈ GT := mTE (sE_4_0 (mc13 List.mem_cons_self)) rfl
theorem wn_734 : (Jvm.Cond.methodLinkNest "AsleepPass" (246 : Nat) ({ cls := "AsleepPass$Learnt", name := "add", desc := "(IIII)Z" } : Jvm.MethodName) "AsleepPass") ∈ NT := mNE (sE_4_0 (mc14 List.mem_cons_self)) rfl
theorem wt_736 : (Jvm.Cond.instanceMethod ({ cls := "AsleepPass$Learnt", name := "add", desc := "(IIII)Z" } : Jvm.MethodName)) ∈ GT := mTE (sE_4_1 List.mem_cons_self) rfl
theorem wt_737 : (Jvm.Cond.code ({ cls := "AsleepPass$Learnt", name := "add", desc := "(IIII)Z" } : Jvm.MethodName) prog_4_method_2_code (5 : Nat) (Option.some Jvm.ClassFile.FieldType.boolean)) ∈ GT := mTE (sE_4_1 (mc1 List.mem_cons_self)) rfl
theorem wt_738 : (Jvm.Cond.methodLink "AsleepPassLaw" (124 : Nat) ({ cls := "AsleepPass", name := "forget", desc := "(I)I" } : Jvm.MethodName)) ∈ GT := mTE (sE_4_1 (mc2 List.mem_cons_self)) rfl
theorem wt_739 : (Jvm.Cond.instanceMethod ({ cls := "AsleepPass", name := "forget", desc := "(I)I" } : Jvm.MethodName)) ∈ GT := mTE (sE_4_1 (mc3 List.mem_cons_self)) rfl
theorem wt_740 : (Jvm.Cond.selects "AsleepPass" ({ cls := "AsleepPass", name := "forget", desc := "(I)I" } : Jvm.MethodName) ({ cls := "AsleepPass", name := "forget", desc := "(I)I" } : Jvm.MethodName)) ∈ GT := mTE (sE_4_1 (mc4 List.mem_cons_self)) rfl
theorem wt_741 : (Jvm.Cond.code ({ cls := "AsleepPass", name := "forget", desc := "(I)I" } : Jvm.MethodName) prog_1_method_29_code (3 : Nat) (Option.some Jvm.ClassFile.FieldType.int)) ∈ GT := mTE (sE_4_1 (mc5 List.mem_cons_self)) rfl
theorem wt_742 : (Jvm.Cond.methodLink "AsleepPassLaw" (128 : Nat) ({ cls := "AsleepPass", name := "steps", desc := "(II)I" } : Jvm.MethodName)) ∈ GT := mTE (sE_4_1 (mc6 List.mem_cons_self)) rfl
theorem wt_743 : (Jvm.Cond.instanceMethod ({ cls := "AsleepPass", name := "steps", desc := "(II)I" } : Jvm.MethodName)) ∈ GT := mTE (sE_4_1 (mc7 List.mem_cons_self)) rfl
theorem wt_744 : (Jvm.Cond.selects "AsleepPass" ({ cls := "AsleepPass", name := "steps", desc := "(II)I" } : Jvm.MethodName) ({ cls := "AsleepPass", name := "steps", desc := "(II)I" } : Jvm.MethodName)) ∈ GT := mTE (sE_4_1 (mc8 List.mem_cons_self)) rfl
theorem wt_745 : (Jvm.Cond.code ({ cls := "AsleepPass", name := "steps", desc := "(II)I" } : Jvm.MethodName) prog_1_method_30_code (7 : Nat) (Option.some Jvm.ClassFile.FieldType.int)) ∈ GT := mTE (sE_4_1 (mc9 List.mem_cons_self)) rfl
theorem wn_746 : (Jvm.Cond.methodLinkNest "AsleepPass" (250 : Nat) ({ cls := "AsleepPass$Learnt", name := "isSo", desc := "(LAsleepPass$Way;)Z" } : Jvm.MethodName) "AsleepPass") ∈ NT := mNE (sE_4_1 (mc10 List.mem_cons_self)) rfl
theorem wt_748 : (Jvm.Cond.instanceMethod ({ cls := "AsleepPass$Learnt", name := "isSo", desc := "(LAsleepPass$Way;)Z" } : Jvm.MethodName)) ∈ GT := mTE (sE_4_1 (mc12 List.mem_cons_self)) rfl
theorem wt_749 : (Jvm.Cond.code ({ cls := "AsleepPass$Learnt", name := "isSo", desc := "(LAsleepPass$Way;)Z" } : Jvm.MethodName) prog_4_method_3_code (3 : Nat) (Option.some Jvm.ClassFile.FieldType.boolean)) ∈ GT := mTE (sE_4_1 (mc13 List.mem_cons_self)) rfl
theorem wn_750 : (Jvm.Cond.methodLinkNest "AsleepPass$Learnt" (26 : Nat) ({ cls := "AsleepPass$Way", name := "harmBy", desc := "(III)I" } : Jvm.MethodName) "AsleepPass") ∈ NT := mNE (sE_4_1 (mc14 List.mem_cons_self)) rfl
theorem wt_751 : (Jvm.Cond.methodLink "AsleepPassLaw" (132 : Nat) ({ cls := "AsleepPass", name := "mark", desc := "(II)I" } : Jvm.MethodName)) ∈ GT := mTE (sE_4_1 (mc15 List.mem_cons_self)) rfl
theorem wt_752 : (Jvm.Cond.instanceMethod ({ cls := "AsleepPass", name := "mark", desc := "(II)I" } : Jvm.MethodName)) ∈ GT := mTE (sE_4_2 List.mem_cons_self) rfl
theorem wt_753 : (Jvm.Cond.selects "AsleepPass" ({ cls := "AsleepPass", name := "mark", desc := "(II)I" } : Jvm.MethodName) ({ cls := "AsleepPass", name := "mark", desc := "(II)I" } : Jvm.MethodName)) ∈ GT := mTE (sE_4_2 (mc1 List.mem_cons_self)) rfl
theorem wt_754 : (Jvm.Cond.code ({ cls := "AsleepPass", name := "mark", desc := "(II)I" } : Jvm.MethodName) prog_1_method_31_code (3 : Nat) (Option.some Jvm.ClassFile.FieldType.int)) ∈ GT := mTE (sE_4_2 (mc2 List.mem_cons_self)) rfl
theorem wn_755 : (Jvm.Cond.methodLinkNest "AsleepPass" (254 : Nat) ({ cls := "AsleepPass$Marked", name := "add", desc := "(II)Z" } : Jvm.MethodName) "AsleepPass") ∈ NT := mNE (sE_4_2 (mc3 List.mem_cons_self)) rfl
theorem wt_757 : (Jvm.Cond.instanceMethod ({ cls := "AsleepPass$Marked", name := "add", desc := "(II)Z" } : Jvm.MethodName)) ∈ GT := mTE (sE_4_2 (mc5 List.mem_cons_self)) rfl
theorem wt_758 : (Jvm.Cond.code ({ cls := "AsleepPass$Marked", name := "add", desc := "(II)Z" } : Jvm.MethodName) prog_5_method_2_code (3 : Nat) (Option.some Jvm.ClassFile.FieldType.boolean)) ∈ GT := mTE (sE_4_2 (mc6 List.mem_cons_self)) rfl
theorem wt_759 : (Jvm.Cond.methodLink "AsleepPassLaw" (136 : Nat) ({ cls := "AsleepPass", name := "wipe", desc := "(I)I" } : Jvm.MethodName)) ∈ GT := mTE (sE_4_2 (mc7 List.mem_cons_self)) rfl
theorem wt_760 : (Jvm.Cond.instanceMethod ({ cls := "AsleepPass", name := "wipe", desc := "(I)I" } : Jvm.MethodName)) ∈ GT := mTE (sE_4_2 (mc8 List.mem_cons_self)) rfl
theorem wt_761 : (Jvm.Cond.selects "AsleepPass" ({ cls := "AsleepPass", name := "wipe", desc := "(I)I" } : Jvm.MethodName) ({ cls := "AsleepPass", name := "wipe", desc := "(I)I" } : Jvm.MethodName)) ∈ GT := mTE (sE_4_2 (mc9 List.mem_cons_self)) rfl
theorem wt_762 : (Jvm.Cond.code ({ cls := "AsleepPass", name := "wipe", desc := "(I)I" } : Jvm.MethodName) prog_1_method_32_code (3 : Nat) (Option.some Jvm.ClassFile.FieldType.int)) ∈ GT := mTE (sE_4_2 (mc10 List.mem_cons_self)) rfl
theorem wt_763 : (Jvm.Cond.methodLink "AsleepPassLaw" (140 : Nat) ({ cls := "AsleepPass", name := "paths", desc := "()I" } : Jvm.MethodName)) ∈ GT := mTE (sE_4_2 (mc11 List.mem_cons_self)) rfl
theorem wt_764 : (Jvm.Cond.instanceMethod ({ cls := "AsleepPass", name := "paths", desc := "()I" } : Jvm.MethodName)) ∈ GT := mTE (sE_4_2 (mc12 List.mem_cons_self)) rfl
theorem wt_765 : (Jvm.Cond.selects "AsleepPass" ({ cls := "AsleepPass", name := "paths", desc := "()I" } : Jvm.MethodName) ({ cls := "AsleepPass", name := "paths", desc := "()I" } : Jvm.MethodName)) ∈ GT := mTE (sE_4_2 (mc13 List.mem_cons_self)) rfl
theorem wt_766 : (Jvm.Cond.code ({ cls := "AsleepPass", name := "paths", desc := "()I" } : Jvm.MethodName) prog_1_method_33_code (1 : Nat) (Option.some Jvm.ClassFile.FieldType.int)) ∈ GT := mTE (sE_4_2 (mc14 List.mem_cons_self)) rfl
theorem wn_767 : (Jvm.Cond.methodLinkNest "AsleepPass" (257 : Nat) ({ cls := "AsleepPass$Trails", name := "explore", desc := "(LAsleepPass$Way;LAsleepPass$Marked;)V" } : Jvm.MethodName) "AsleepPass") ∈ NT := mNE (sE_4_2 (mc15 List.mem_cons_self)) rfl
theorem wt_769 : (Jvm.Cond.instanceMethod ({ cls := "AsleepPass$Trails", name := "explore", desc := "(LAsleepPass$Way;LAsleepPass$Marked;)V" } : Jvm.MethodName)) ∈ GT := mTE (sE_4_3 (mc1 List.mem_cons_self)) rfl
theorem wt_770 : (Jvm.Cond.code ({ cls := "AsleepPass$Trails", name := "explore", desc := "(LAsleepPass$Way;LAsleepPass$Marked;)V" } : Jvm.MethodName) prog_10_method_2_code (4 : Nat) (Option.none : Option Jvm.ClassFile.FieldType)) ∈ GT := mTE (sE_4_3 (mc2 List.mem_cons_self)) rfl
theorem wn_771 : (Jvm.Cond.methodLinkNest "AsleepPass$Trails" (28 : Nat) ({ cls := "AsleepPass$Way", name := "harmInOrder", desc := "(I)I" } : Jvm.MethodName) "AsleepPass") ∈ NT := mNE (sE_4_3 (mc3 List.mem_cons_self)) rfl
theorem wt_772 : (Jvm.Cond.methodLink "AsleepPass$Trails" (32 : Nat) ({ cls := "AsleepPass$Trails", name := "leadInto", desc := "(II)V" } : Jvm.MethodName)) ∈ GT := mTE (sE_4_3 (mc4 List.mem_cons_self)) rfl
theorem wt_774 : (Jvm.Cond.instanceMethod ({ cls := "AsleepPass$Trails", name := "leadInto", desc := "(II)V" } : Jvm.MethodName)) ∈ GT := mTE (sE_4_3 (mc6 List.mem_cons_self)) rfl
theorem wt_775 : (Jvm.Cond.code ({ cls := "AsleepPass$Trails", name := "leadInto", desc := "(II)V" } : Jvm.MethodName) prog_10_method_4_code (4 : Nat) (Option.none : Option Jvm.ClassFile.FieldType)) ∈ GT := mTE (sE_4_3 (mc7 List.mem_cons_self)) rfl
theorem wt_776 : (Jvm.Cond.methodLink "AsleepPass$Trails" (52 : Nat) ({ cls := "java/lang/Math", name := "min", desc := "(II)I" } : Jvm.MethodName)) ∈ GT := mTE (sE_4_3 (mc8 List.mem_cons_self)) rfl
theorem wt_777 : (Jvm.Cond.methodLink "AsleepPass$Trails" (36 : Nat) ({ cls := "AsleepPass$Trails", name := "dropUnmarked", desc := "([ILAsleepPass$Marked;I)V" } : Jvm.MethodName)) ∈ GT := mTE (sE_4_3 (mc9 List.mem_cons_self)) rfl
theorem wt_778 : (Jvm.Cond.static ({ cls := "AsleepPass$Trails", name := "dropUnmarked", desc := "([ILAsleepPass$Marked;I)V" } : Jvm.MethodName)) ∈ GT := mTE (sE_4_3 (mc10 List.mem_cons_self)) rfl
theorem wt_779 : (Jvm.Cond.code ({ cls := "AsleepPass$Trails", name := "dropUnmarked", desc := "([ILAsleepPass$Marked;I)V" } : Jvm.MethodName) prog_10_method_3_code (4 : Nat) (Option.none : Option Jvm.ClassFile.FieldType)) ∈ GT := mTE (sE_4_3 (mc11 List.mem_cons_self)) rfl
theorem wn_780 : (Jvm.Cond.methodLinkNest "AsleepPass$Trails" (46 : Nat) ({ cls := "AsleepPass$Marked", name := "allows", desc := "(II)Z" } : Jvm.MethodName) "AsleepPass") ∈ NT := mNE (sE_4_3 (mc12 List.mem_cons_self)) rfl
theorem wt_782 : (Jvm.Cond.instanceMethod ({ cls := "AsleepPass$Marked", name := "allows", desc := "(II)Z" } : Jvm.MethodName)) ∈ GT := mTE (sE_4_3 (mc14 List.mem_cons_self)) rfl
theorem wt_783 : (Jvm.Cond.code ({ cls := "AsleepPass$Marked", name := "allows", desc := "(II)Z" } : Jvm.MethodName) prog_5_method_3_code (4 : Nat) (Option.some Jvm.ClassFile.FieldType.boolean)) ∈ GT := mTE (sE_4_3 (mc15 List.mem_cons_self)) rfl
theorem wt_784 : (Jvm.Cond.methodLink "AsleepPass$Trails" (40 : Nat) ({ cls := "AsleepPass$Trails", name := "leadOnward", desc := "(II)V" } : Jvm.MethodName)) ∈ GT := mTE (sE_4_4 List.mem_cons_self) rfl
theorem wt_786 : (Jvm.Cond.instanceMethod ({ cls := "AsleepPass$Trails", name := "leadOnward", desc := "(II)V" } : Jvm.MethodName)) ∈ GT := mTE (sE_4_4 (mc2 List.mem_cons_self)) rfl
theorem wt_787 : (Jvm.Cond.code ({ cls := "AsleepPass$Trails", name := "leadOnward", desc := "(II)V" } : Jvm.MethodName) prog_10_method_5_code (6 : Nat) (Option.none : Option Jvm.ClassFile.FieldType)) ∈ GT := mTE (sE_4_4 (mc3 List.mem_cons_self)) rfl
theorem wt_788 : (Jvm.Cond.methodLink "AsleepPassLaw" (144 : Nat) ({ cls := "AsleepPass", name := "eye", desc := "(I)I" } : Jvm.MethodName)) ∈ GT := mTE (sE_4_4 (mc4 List.mem_cons_self)) rfl
theorem wt_789 : (Jvm.Cond.instanceMethod ({ cls := "AsleepPass", name := "eye", desc := "(I)I" } : Jvm.MethodName)) ∈ GT := mTE (sE_4_4 (mc5 List.mem_cons_self)) rfl
theorem wt_790 : (Jvm.Cond.selects "AsleepPass" ({ cls := "AsleepPass", name := "eye", desc := "(I)I" } : Jvm.MethodName) ({ cls := "AsleepPass", name := "eye", desc := "(I)I" } : Jvm.MethodName)) ∈ GT := mTE (sE_4_4 (mc6 List.mem_cons_self)) rfl
theorem wt_791 : (Jvm.Cond.code ({ cls := "AsleepPass", name := "eye", desc := "(I)I" } : Jvm.MethodName) prog_1_method_34_code (4 : Nat) (Option.some Jvm.ClassFile.FieldType.int)) ∈ GT := mTE (sE_4_4 (mc7 List.mem_cons_self)) rfl
theorem wn_792 : (Jvm.Cond.methodLinkNest "AsleepPass" (264 : Nat) ({ cls := "AsleepPass$Trails", name := "canBeBehind", desc := "(II)Z" } : Jvm.MethodName) "AsleepPass") ∈ NT := mNE (sE_4_4 (mc8 List.mem_cons_self)) rfl
theorem wt_794 : (Jvm.Cond.instanceMethod ({ cls := "AsleepPass$Trails", name := "canBeBehind", desc := "(II)Z" } : Jvm.MethodName)) ∈ GT := mTE (sE_4_4 (mc10 List.mem_cons_self)) rfl
theorem wt_795 : (Jvm.Cond.code ({ cls := "AsleepPass$Trails", name := "canBeBehind", desc := "(II)Z" } : Jvm.MethodName) prog_10_method_6_code (3 : Nat) (Option.some Jvm.ClassFile.FieldType.boolean)) ∈ GT := mTE (sE_4_4 (mc11 List.mem_cons_self)) rfl
theorem wt_796 : (Jvm.Cond.methodLink "AsleepPassLaw" (148 : Nat) ({ cls := "AsleepPass", name := "sure", desc := "(I)I" } : Jvm.MethodName)) ∈ GT := mTE (sE_4_4 (mc12 List.mem_cons_self)) rfl
theorem wt_797 : (Jvm.Cond.instanceMethod ({ cls := "AsleepPass", name := "sure", desc := "(I)I" } : Jvm.MethodName)) ∈ GT := mTE (sE_4_4 (mc13 List.mem_cons_self)) rfl
theorem wt_798 : (Jvm.Cond.selects "AsleepPass" ({ cls := "AsleepPass", name := "sure", desc := "(I)I" } : Jvm.MethodName) ({ cls := "AsleepPass", name := "sure", desc := "(I)I" } : Jvm.MethodName)) ∈ GT := mTE (sE_4_4 (mc14 List.mem_cons_self)) rfl
theorem wt_799 : (Jvm.Cond.code ({ cls := "AsleepPass", name := "sure", desc := "(I)I" } : Jvm.MethodName) prog_1_method_35_code (5 : Nat) (Option.some Jvm.ClassFile.FieldType.int)) ∈ GT := mTE (sE_4_4 (mc15 List.mem_cons_self)) rfl
theorem wn_800 : (Jvm.Cond.methodLinkNest "AsleepPass" (267 : Nat) ({ cls := "AsleepPass$Trails", name := "falling", desc := "(LAsleepPass$Way;I)I" } : Jvm.MethodName) "AsleepPass") ∈ NT := mNE (sE_4_5 List.mem_cons_self) rfl
theorem wt_802 : (Jvm.Cond.instanceMethod ({ cls := "AsleepPass$Trails", name := "falling", desc := "(LAsleepPass$Way;I)I" } : Jvm.MethodName)) ∈ GT := mTE (sE_4_5 (mc2 List.mem_cons_self)) rfl
theorem wt_803 : (Jvm.Cond.code ({ cls := "AsleepPass$Trails", name := "falling", desc := "(LAsleepPass$Way;I)I" } : Jvm.MethodName) prog_10_method_7_code (5 : Nat) (Option.some Jvm.ClassFile.FieldType.int)) ∈ GT := mTE (sE_4_5 (mc3 List.mem_cons_self)) rfl
theorem wn_804 : (Jvm.Cond.methodLinkNest "AsleepPass" (271 : Nat) ({ cls := "AsleepPass$Trails", name := "rising", desc := "(LAsleepPass$Way;I)I" } : Jvm.MethodName) "AsleepPass") ∈ NT := mNE (sE_4_5 (mc4 List.mem_cons_self)) rfl
theorem wt_806 : (Jvm.Cond.instanceMethod ({ cls := "AsleepPass$Trails", name := "rising", desc := "(LAsleepPass$Way;I)I" } : Jvm.MethodName)) ∈ GT := mTE (sE_4_5 (mc6 List.mem_cons_self)) rfl
theorem wt_807 : (Jvm.Cond.code ({ cls := "AsleepPass$Trails", name := "rising", desc := "(LAsleepPass$Way;I)I" } : Jvm.MethodName) prog_10_method_8_code (5 : Nat) (Option.some Jvm.ClassFile.FieldType.int)) ∈ GT := mTE (sE_4_5 (mc7 List.mem_cons_self)) rfl
theorem wt_808 : (Jvm.Cond.methodLink "AsleepPassLaw" (152 : Nat) ({ cls := "AsleepPass", name := "keep", desc := "(I)I" } : Jvm.MethodName)) ∈ GT := mTE (sE_4_5 (mc8 List.mem_cons_self)) rfl
theorem wt_809 : (Jvm.Cond.instanceMethod ({ cls := "AsleepPass", name := "keep", desc := "(I)I" } : Jvm.MethodName)) ∈ GT := mTE (sE_4_5 (mc9 List.mem_cons_self)) rfl
theorem wt_810 : (Jvm.Cond.selects "AsleepPass" ({ cls := "AsleepPass", name := "keep", desc := "(I)I" } : Jvm.MethodName) ({ cls := "AsleepPass", name := "keep", desc := "(I)I" } : Jvm.MethodName)) ∈ GT := mTE (sE_4_5 (mc10 List.mem_cons_self)) rfl
theorem wt_811 : (Jvm.Cond.code ({ cls := "AsleepPass", name := "keep", desc := "(I)I" } : Jvm.MethodName) prog_1_method_36_code (3 : Nat) (Option.some Jvm.ClassFile.FieldType.int)) ∈ GT := mTE (sE_4_5 (mc11 List.mem_cons_self)) rfl
theorem wt_812 : (Jvm.Cond.methodLink "AsleepPass" (274 : Nat) ({ cls := "AsleepPass", name := "isImage", desc := "(I)Z" } : Jvm.MethodName)) ∈ GT := mTE (sE_4_5 (mc12 List.mem_cons_self)) rfl
theorem wt_813 : (Jvm.Cond.static ({ cls := "AsleepPass", name := "isImage", desc := "(I)Z" } : Jvm.MethodName)) ∈ GT := mTE (sE_4_5 (mc13 List.mem_cons_self)) rfl
theorem wt_814 : (Jvm.Cond.code ({ cls := "AsleepPass", name := "isImage", desc := "(I)Z" } : Jvm.MethodName) prog_1_method_46_code (1 : Nat) (Option.some Jvm.ClassFile.FieldType.boolean)) ∈ GT := mTE (sE_4_5 (mc14 List.mem_cons_self)) rfl
theorem wt_815 : (Jvm.Cond.methodLink "AsleepPassLaw" (156 : Nat) ({ cls := "AsleepPass", name := "back", desc := "(I)I" } : Jvm.MethodName)) ∈ GT := mTE (sE_4_5 (mc15 List.mem_cons_self)) rfl
theorem wt_816 : (Jvm.Cond.instanceMethod ({ cls := "AsleepPass", name := "back", desc := "(I)I" } : Jvm.MethodName)) ∈ GT := mTE (sE_4_6 List.mem_cons_self) rfl
theorem wt_817 : (Jvm.Cond.selects "AsleepPass" ({ cls := "AsleepPass", name := "back", desc := "(I)I" } : Jvm.MethodName) ({ cls := "AsleepPass", name := "back", desc := "(I)I" } : Jvm.MethodName)) ∈ GT := mTE (sE_4_6 (mc1 List.mem_cons_self)) rfl
theorem wt_818 : (Jvm.Cond.code ({ cls := "AsleepPass", name := "back", desc := "(I)I" } : Jvm.MethodName) prog_1_method_37_code (2 : Nat) (Option.some Jvm.ClassFile.FieldType.int)) ∈ GT := mTE (sE_4_6 (mc2 List.mem_cons_self)) rfl
theorem wt_819 : (Jvm.Cond.methodLink "AsleepPassLaw" (160 : Nat) ({ cls := "AsleepPass", name := "sheet", desc := "(III)I" } : Jvm.MethodName)) ∈ GT := mTE (sE_4_6 (mc3 List.mem_cons_self)) rfl
theorem wt_820 : (Jvm.Cond.instanceMethod ({ cls := "AsleepPass", name := "sheet", desc := "(III)I" } : Jvm.MethodName)) ∈ GT := mTE (sE_4_6 (mc4 List.mem_cons_self)) rfl
theorem wt_821 : (Jvm.Cond.selects "AsleepPass" ({ cls := "AsleepPass", name := "sheet", desc := "(III)I" } : Jvm.MethodName) ({ cls := "AsleepPass", name := "sheet", desc := "(III)I" } : Jvm.MethodName)) ∈ GT := mTE (sE_4_6 (mc5 List.mem_cons_self)) rfl
theorem wt_822 : (Jvm.Cond.code ({ cls := "AsleepPass", name := "sheet", desc := "(III)I" } : Jvm.MethodName) prog_1_method_38_code (4 : Nat) (Option.some Jvm.ClassFile.FieldType.int)) ∈ GT := mTE (sE_4_6 (mc6 List.mem_cons_self)) rfl
theorem wn_823 : (Jvm.Cond.methodLinkNest "AsleepPass" (277 : Nat) ({ cls := "AsleepPass$Sheets", name := "isSheet", desc := "(I)Z" } : Jvm.MethodName) "AsleepPass") ∈ NT := mNE (sE_4_6 (mc7 List.mem_cons_self)) rfl
theorem wt_824 : (Jvm.Cond.static ({ cls := "AsleepPass$Sheets", name := "isSheet", desc := "(I)Z" } : Jvm.MethodName)) ∈ GT := mTE (sE_4_6 (mc8 List.mem_cons_self)) rfl
theorem wt_825 : (Jvm.Cond.code ({ cls := "AsleepPass$Sheets", name := "isSheet", desc := "(I)Z" } : Jvm.MethodName) prog_8_method_2_code (1 : Nat) (Option.some Jvm.ClassFile.FieldType.boolean)) ∈ GT := mTE (sE_4_6 (mc9 List.mem_cons_self)) rfl
theorem wn_826 : (Jvm.Cond.methodLinkNest "AsleepPass" (280 : Nat) ({ cls := "AsleepPass$Sheets", name := "isLane", desc := "(I)Z" } : Jvm.MethodName) "AsleepPass") ∈ NT := mNE (sE_4_6 (mc10 List.mem_cons_self)) rfl
theorem wt_827 : (Jvm.Cond.static ({ cls := "AsleepPass$Sheets", name := "isLane", desc := "(I)Z" } : Jvm.MethodName)) ∈ GT := mTE (sE_4_6 (mc11 List.mem_cons_self)) rfl
theorem wt_828 : (Jvm.Cond.code ({ cls := "AsleepPass$Sheets", name := "isLane", desc := "(I)Z" } : Jvm.MethodName) prog_8_method_3_code (1 : Nat) (Option.some Jvm.ClassFile.FieldType.boolean)) ∈ GT := mTE (sE_4_6 (mc12 List.mem_cons_self)) rfl
theorem wn_829 : (Jvm.Cond.methodLinkNest "AsleepPass" (283 : Nat) ({ cls := "AsleepPass$Sheets", name := "renew", desc := "(III)V" } : Jvm.MethodName) "AsleepPass") ∈ NT := mNE (sE_4_6 (mc13 List.mem_cons_self)) rfl
theorem wt_831 : (Jvm.Cond.instanceMethod ({ cls := "AsleepPass$Sheets", name := "renew", desc := "(III)V" } : Jvm.MethodName)) ∈ GT := mTE (sE_4_6 (mc15 List.mem_cons_self)) rfl
theorem wt_832 : (Jvm.Cond.code ({ cls := "AsleepPass$Sheets", name := "renew", desc := "(III)V" } : Jvm.MethodName) prog_8_method_4_code (5 : Nat) (Option.none : Option Jvm.ClassFile.FieldType)) ∈ GT := mTE (sE_4_7 List.mem_cons_self) rfl
theorem wt_833 : (Jvm.Cond.methodLink "AsleepPass$Sheets" (29 : Nat) ({ cls := "AsleepPass$Sheets", name := "isSheet", desc := "(I)Z" } : Jvm.MethodName)) ∈ GT := mTE (sE_4_7 (mc1 List.mem_cons_self)) rfl
theorem wt_834 : (Jvm.Cond.methodLink "AsleepPassLaw" (164 : Nat) ({ cls := "AsleepPass", name := "lay", desc := "(III)I" } : Jvm.MethodName)) ∈ GT := mTE (sE_4_7 (mc2 List.mem_cons_self)) rfl
theorem wt_835 : (Jvm.Cond.instanceMethod ({ cls := "AsleepPass", name := "lay", desc := "(III)I" } : Jvm.MethodName)) ∈ GT := mTE (sE_4_7 (mc3 List.mem_cons_self)) rfl
theorem wt_836 : (Jvm.Cond.selects "AsleepPass" ({ cls := "AsleepPass", name := "lay", desc := "(III)I" } : Jvm.MethodName) ({ cls := "AsleepPass", name := "lay", desc := "(III)I" } : Jvm.MethodName)) ∈ GT := mTE (sE_4_7 (mc4 List.mem_cons_self)) rfl
theorem wt_837 : (Jvm.Cond.code ({ cls := "AsleepPass", name := "lay", desc := "(III)I" } : Jvm.MethodName) prog_1_method_39_code (5 : Nat) (Option.some Jvm.ClassFile.FieldType.int)) ∈ GT := mTE (sE_4_7 (mc5 List.mem_cons_self)) rfl
theorem wn_838 : (Jvm.Cond.methodLinkNest "AsleepPass" (287 : Nat) ({ cls := "AsleepPass$Sheets", name := "faultAt", desc := "(IJ)I" } : Jvm.MethodName) "AsleepPass") ∈ NT := mNE (sE_4_7 (mc6 List.mem_cons_self)) rfl
theorem wt_840 : (Jvm.Cond.instanceMethod ({ cls := "AsleepPass$Sheets", name := "faultAt", desc := "(IJ)I" } : Jvm.MethodName)) ∈ GT := mTE (sE_4_7 (mc8 List.mem_cons_self)) rfl
theorem wt_841 : (Jvm.Cond.code ({ cls := "AsleepPass$Sheets", name := "faultAt", desc := "(IJ)I" } : Jvm.MethodName) prog_8_method_6_code (4 : Nat) (Option.some Jvm.ClassFile.FieldType.int)) ∈ GT := mTE (sE_4_7 (mc9 List.mem_cons_self)) rfl
theorem wn_842 : (Jvm.Cond.methodLinkNest "AsleepPass" (291 : Nat) ({ cls := "AsleepPass$Sheets", name := "fill", desc := "(III)V" } : Jvm.MethodName) "AsleepPass") ∈ NT := mNE (sE_4_7 (mc10 List.mem_cons_self)) rfl
theorem wt_844 : (Jvm.Cond.instanceMethod ({ cls := "AsleepPass$Sheets", name := "fill", desc := "(III)V" } : Jvm.MethodName)) ∈ GT := mTE (sE_4_7 (mc12 List.mem_cons_self)) rfl
theorem wt_845 : (Jvm.Cond.code ({ cls := "AsleepPass$Sheets", name := "fill", desc := "(III)V" } : Jvm.MethodName) prog_8_method_7_code (4 : Nat) (Option.none : Option Jvm.ClassFile.FieldType)) ∈ GT := mTE (sE_4_7 (mc13 List.mem_cons_self)) rfl
theorem wt_846 : (Jvm.Cond.methodLink "AsleepPass$Sheets" (33 : Nat) ({ cls := "AsleepPass$Sheets", name := "faultAt", desc := "(IJ)I" } : Jvm.MethodName)) ∈ GT := mTE (sE_4_7 (mc14 List.mem_cons_self)) rfl
theorem wt_847 : (Jvm.Cond.methodLink "AsleepPassLaw" (168 : Nat) ({ cls := "AsleepPass", name := "read", desc := "(IIII)I" } : Jvm.MethodName)) ∈ GT := mTE (sE_4_7 (mc15 List.mem_cons_self)) rfl
theorem wt_848 : (Jvm.Cond.instanceMethod ({ cls := "AsleepPass", name := "read", desc := "(IIII)I" } : Jvm.MethodName)) ∈ GT := mTE (sE_4_8 List.mem_cons_self) rfl
theorem wt_849 : (Jvm.Cond.selects "AsleepPass" ({ cls := "AsleepPass", name := "read", desc := "(IIII)I" } : Jvm.MethodName) ({ cls := "AsleepPass", name := "read", desc := "(IIII)I" } : Jvm.MethodName)) ∈ GT := mTE (sE_4_8 (mc1 List.mem_cons_self)) rfl
theorem wt_850 : (Jvm.Cond.code ({ cls := "AsleepPass", name := "read", desc := "(IIII)I" } : Jvm.MethodName) prog_1_method_40_code (6 : Nat) (Option.some Jvm.ClassFile.FieldType.int)) ∈ GT := mTE (sE_4_8 (mc2 List.mem_cons_self)) rfl
theorem wn_851 : (Jvm.Cond.methodLinkNest "AsleepPass" (294 : Nat) ({ cls := "AsleepPass$Sheets", name := "takePairs", desc := "(IIII)V" } : Jvm.MethodName) "AsleepPass") ∈ NT := mNE (sE_4_8 (mc3 List.mem_cons_self)) rfl
theorem wt_853 : (Jvm.Cond.instanceMethod ({ cls := "AsleepPass$Sheets", name := "takePairs", desc := "(IIII)V" } : Jvm.MethodName)) ∈ GT := mTE (sE_4_8 (mc5 List.mem_cons_self)) rfl
theorem wt_854 : (Jvm.Cond.code ({ cls := "AsleepPass$Sheets", name := "takePairs", desc := "(IIII)V" } : Jvm.MethodName) prog_8_method_8_code (8 : Nat) (Option.none : Option Jvm.ClassFile.FieldType)) ∈ GT := mTE (sE_4_8 (mc6 List.mem_cons_self)) rfl
theorem wt_855 : (Jvm.Cond.constantLong "AsleepPass$Sheets" (44 : Nat) (2 : Int64)) ∈ GT := mTE (sE_4_8 (mc7 List.mem_cons_self)) rfl
theorem wt_856 : (Jvm.Cond.methodLink "AsleepPassLaw" (172 : Nat) ({ cls := "AsleepPass", name := "torn", desc := "()I" } : Jvm.MethodName)) ∈ GT := mTE (sE_4_8 (mc8 List.mem_cons_self)) rfl
theorem wt_857 : (Jvm.Cond.instanceMethod ({ cls := "AsleepPass", name := "torn", desc := "()I" } : Jvm.MethodName)) ∈ GT := mTE (sE_4_8 (mc9 List.mem_cons_self)) rfl
theorem wt_858 : (Jvm.Cond.selects "AsleepPass" ({ cls := "AsleepPass", name := "torn", desc := "()I" } : Jvm.MethodName) ({ cls := "AsleepPass", name := "torn", desc := "()I" } : Jvm.MethodName)) ∈ GT := mTE (sE_4_8 (mc10 List.mem_cons_self)) rfl
theorem wt_859 : (Jvm.Cond.code ({ cls := "AsleepPass", name := "torn", desc := "()I" } : Jvm.MethodName) prog_1_method_41_code (1 : Nat) (Option.some Jvm.ClassFile.FieldType.int)) ∈ GT := mTE (sE_4_8 (mc11 List.mem_cons_self)) rfl
theorem wt_860 : (Jvm.Cond.methodLink "AsleepPassLaw" (176 : Nat) ({ cls := "AsleepPass", name := "count", desc := "(I)I" } : Jvm.MethodName)) ∈ GT := mTE (sE_4_8 (mc12 List.mem_cons_self)) rfl
theorem wt_861 : (Jvm.Cond.instanceMethod ({ cls := "AsleepPass", name := "count", desc := "(I)I" } : Jvm.MethodName)) ∈ GT := mTE (sE_4_8 (mc13 List.mem_cons_self)) rfl
theorem wt_862 : (Jvm.Cond.selects "AsleepPass" ({ cls := "AsleepPass", name := "count", desc := "(I)I" } : Jvm.MethodName) ({ cls := "AsleepPass", name := "count", desc := "(I)I" } : Jvm.MethodName)) ∈ GT := mTE (sE_4_8 (mc14 List.mem_cons_self)) rfl
theorem wt_863 : (Jvm.Cond.code ({ cls := "AsleepPass", name := "count", desc := "(I)I" } : Jvm.MethodName) prog_1_method_42_code (2 : Nat) (Option.some Jvm.ClassFile.FieldType.int)) ∈ GT := mTE (sE_4_8 (mc15 List.mem_cons_self)) rfl
theorem wn_864 : (Jvm.Cond.methodLinkNest "AsleepPass" (311 : Nat) ({ cls := "AsleepPass$Sheets", name := "sizeOf", desc := "(I)I" } : Jvm.MethodName) "AsleepPass") ∈ NT := mNE (sE_4_9 List.mem_cons_self) rfl
theorem wt_866 : (Jvm.Cond.instanceMethod ({ cls := "AsleepPass$Sheets", name := "sizeOf", desc := "(I)I" } : Jvm.MethodName)) ∈ GT := mTE (sE_4_9 (mc2 List.mem_cons_self)) rfl
theorem wt_867 : (Jvm.Cond.code ({ cls := "AsleepPass$Sheets", name := "sizeOf", desc := "(I)I" } : Jvm.MethodName) prog_8_method_5_code (2 : Nat) (Option.some Jvm.ClassFile.FieldType.int)) ∈ GT := mTE (sE_4_9 (mc3 List.mem_cons_self)) rfl
theorem wn_868 : (Jvm.Cond.methodLinkNest "AsleepPass" (314 : Nat) ({ cls := "AsleepPass$Way", name := "handOvers", desc := "()I" } : Jvm.MethodName) "AsleepPass") ∈ NT := mNE (sE_4_9 (mc4 List.mem_cons_self)) rfl
theorem wt_870 : (Jvm.Cond.instanceMethod ({ cls := "AsleepPass$Way", name := "handOvers", desc := "()I" } : Jvm.MethodName)) ∈ GT := mTE (sE_4_9 (mc6 List.mem_cons_self)) rfl
theorem wt_871 : (Jvm.Cond.code ({ cls := "AsleepPass$Way", name := "handOvers", desc := "()I" } : Jvm.MethodName) prog_11_method_15_code (3 : Nat) (Option.some Jvm.ClassFile.FieldType.int)) ∈ GT := mTE (sE_4_9 (mc7 List.mem_cons_self)) rfl
theorem wt_872 : (Jvm.Cond.classLink "AsleepPassLaw" (10 : Nat) "AsleepPassModel") ∈ GT := mTE (sE_4_9 (mc8 List.mem_cons_self)) rfl
theorem wt_873 : (Jvm.Cond.instantiable "AsleepPassModel" (35 : Nat)) ∈ GT := mTE (sE_4_9 (mc9 List.mem_cons_self)) rfl
theorem wt_874 : (Jvm.Cond.methodLink "AsleepPassLaw" (12 : Nat) ({ cls := "AsleepPassModel", name := "<init>", desc := "()V" } : Jvm.MethodName)) ∈ GT := mTE (sE_4_9 (mc10 List.mem_cons_self)) rfl
theorem wt_875 : (Jvm.Cond.instanceMethod ({ cls := "AsleepPassModel", name := "<init>", desc := "()V" } : Jvm.MethodName)) ∈ GT := mTE (sE_4_9 (mc11 List.mem_cons_self)) rfl
theorem wt_876 : (Jvm.Cond.code ({ cls := "AsleepPassModel", name := "<init>", desc := "()V" } : Jvm.MethodName) prog_13_method_1_code (1 : Nat) (Option.none : Option Jvm.ClassFile.FieldType)) ∈ GT := mTE (sE_4_9 (mc12 List.mem_cons_self)) rfl
theorem wt_877 : (Jvm.Cond.methodLink "AsleepPassModel" (1 : Nat) ({ cls := "java/lang/Object", name := "<init>", desc := "()V" } : Jvm.MethodName)) ∈ GT := mTE (sE_4_9 (mc13 List.mem_cons_self)) rfl
theorem wt_878 : (Jvm.Cond.fieldLink "AsleepPassModel" (7 : Nat) "AsleepPassModel" "state" "[I") ∈ GT := mTE (sE_4_9 (mc14 List.mem_cons_self)) rfl
theorem wt_879 : (Jvm.Cond.fieldLink "AsleepPassModel" (146 : Nat) "AsleepPassModel" "stretchMany" "I") ∈ GT := mTE (sE_4_9 (mc15 List.mem_cons_self)) rfl
theorem wt_880 : (Jvm.Cond.fieldLink "AsleepPassModel" (149 : Nat) "AsleepPassModel" "bearerMany" "I") ∈ GT := mTE (sE_4_10 List.mem_cons_self) rfl
theorem wt_881 : (Jvm.Cond.fieldLink "AsleepPassModel" (13 : Nat) "AsleepPassModel" "readPage" "[I") ∈ GT := mTE (sE_4_10 (mc1 List.mem_cons_self)) rfl
theorem wt_882 : (Jvm.Cond.fieldLink "AsleepPassModel" (116 : Nat) "AsleepPassModel" "readStretches" "I") ∈ GT := mTE (sE_4_10 (mc2 List.mem_cons_self)) rfl
theorem wt_883 : (Jvm.Cond.fieldLink "AsleepPassModel" (105 : Nat) "AsleepPassModel" "readBearers" "I") ∈ GT := mTE (sE_4_10 (mc3 List.mem_cons_self)) rfl
theorem wt_884 : (Jvm.Cond.fieldLink "AsleepPassModel" (119 : Nat) "AsleepPassModel" "hasStart" "Z") ∈ GT := mTE (sE_4_10 (mc4 List.mem_cons_self)) rfl
theorem wt_885 : (Jvm.Cond.fieldLink "AsleepPassModel" (123 : Nat) "AsleepPassModel" "carried" "I") ∈ GT := mTE (sE_4_10 (mc5 List.mem_cons_self)) rfl
theorem wt_886 : (Jvm.Cond.fieldLink "AsleepPassModel" (126 : Nat) "AsleepPassModel" "highStretch" "I") ∈ GT := mTE (sE_4_10 (mc6 List.mem_cons_self)) rfl
theorem wt_887 : (Jvm.Cond.fieldLink "AsleepPassModel" (129 : Nat) "AsleepPassModel" "highBearer" "I") ∈ GT := mTE (sE_4_10 (mc7 List.mem_cons_self)) rfl
theorem wt_888 : (Jvm.Cond.fieldLink "AsleepPassModel" (16 : Nat) "AsleepPassModel" "tape" "[I") ∈ GT := mTE (sE_4_10 (mc8 List.mem_cons_self)) rfl
theorem wt_889 : (Jvm.Cond.fieldLink "AsleepPassModel" (60 : Nat) "AsleepPassModel" "taped" "I") ∈ GT := mTE (sE_4_10 (mc9 List.mem_cons_self)) rfl
theorem wt_890 : (Jvm.Cond.fieldLink "AsleepPassModel" (143 : Nat) "AsleepPassModel" "fault" "I") ∈ GT := mTE (sE_4_10 (mc10 List.mem_cons_self)) rfl
theorem wt_891 : (Jvm.Cond.fieldLink "AsleepPassModel" (68 : Nat) "AsleepPassModel" "broken" "I") ∈ GT := mTE (sE_4_10 (mc11 List.mem_cons_self)) rfl
theorem wt_892 : (Jvm.Cond.fieldLink "AsleepPassModel" (74 : Nat) "AsleepPassModel" "brokenAt" "I") ∈ GT := mTE (sE_4_10 (mc12 List.mem_cons_self)) rfl
theorem wt_893 : (Jvm.Cond.fieldLink "AsleepPassModel" (80 : Nat) "AsleepPassModel" "spot" "I") ∈ GT := mTE (sE_4_10 (mc13 List.mem_cons_self)) rfl
theorem wt_894 : (Jvm.Cond.fieldLink "AsleepPassModel" (71 : Nat) "AsleepPassModel" "here" "I") ∈ GT := mTE (sE_4_10 (mc14 List.mem_cons_self)) rfl
theorem wt_895 : (Jvm.Cond.fieldLink "AsleepPassModel" (77 : Nat) "AsleepPassModel" "token" "I") ∈ GT := mTE (sE_4_10 (mc15 List.mem_cons_self)) rfl
theorem wt_896 : (Jvm.Cond.fieldLink "AsleepPassModel" (87 : Nat) "AsleepPassModel" "value" "I") ∈ GT := mTE (sE_4_11 List.mem_cons_self) rfl
theorem wt_897 : (Jvm.Cond.fieldLink "AsleepPassModel" (19 : Nat) "AsleepPassModel" "cuts" "[I") ∈ GT := mTE (sE_4_11 (mc1 List.mem_cons_self)) rfl
theorem wt_898 : (Jvm.Cond.fieldLink "AsleepPassModel" (22 : Nat) "AsleepPassModel" "letters" "[I") ∈ GT := mTE (sE_4_11 (mc2 List.mem_cons_self)) rfl
theorem wt_899 : (Jvm.Cond.fieldLink "AsleepPassModel" (25 : Nat) "AsleepPassModel" "odds" "[J") ∈ GT := mTE (sE_4_11 (mc3 List.mem_cons_self)) rfl
theorem wt_900 : (Jvm.Cond.fieldLink "AsleepPassModel" (29 : Nat) "AsleepPassModel" "then" "[J") ∈ GT := mTE (sE_4_11 (mc4 List.mem_cons_self)) rfl
theorem wt_901 : (Jvm.Cond.fieldLink "AsleepPassModel" (32 : Nat) "AsleepPassModel" "bests" "[J") ∈ GT := mTE (sE_4_11 (mc5 List.mem_cons_self)) rfl
theorem wt_902 : (Jvm.Cond.fieldLink "AsleepPassModel" (35 : Nat) "AsleepPassModel" "learnt" "[I") ∈ GT := mTE (sE_4_11 (mc6 List.mem_cons_self)) rfl
theorem wt_903 : (Jvm.Cond.fieldLink "AsleepPassModel" (152 : Nat) "AsleepPassModel" "learntMany" "I") ∈ GT := mTE (sE_4_11 (mc7 List.mem_cons_self)) rfl
theorem wt_904 : (Jvm.Cond.fieldLink "AsleepPassModel" (38 : Nat) "AsleepPassModel" "marks" "[I") ∈ GT := mTE (sE_4_11 (mc8 List.mem_cons_self)) rfl
theorem wt_905 : (Jvm.Cond.fieldLink "AsleepPassModel" (155 : Nat) "AsleepPassModel" "markMany" "I") ∈ GT := mTE (sE_4_11 (mc9 List.mem_cons_self)) rfl
theorem wt_906 : (Jvm.Cond.fieldLink "AsleepPassModel" (41 : Nat) "AsleepPassModel" "ahead" "[I") ∈ GT := mTE (sE_4_11 (mc10 List.mem_cons_self)) rfl
theorem wt_907 : (Jvm.Cond.fieldLink "AsleepPassModel" (44 : Nat) "AsleepPassModel" "behind" "[I") ∈ GT := mTE (sE_4_11 (mc11 List.mem_cons_self)) rfl
theorem wt_908 : (Jvm.Cond.fieldLink "AsleepPassModel" (47 : Nat) "AsleepPassModel" "isKept" "[Z") ∈ GT := mTE (sE_4_11 (mc12 List.mem_cons_self)) rfl
theorem wt_909 : (Jvm.Cond.fieldLink "AsleepPassModel" (51 : Nat) "AsleepPassModel" "lanes" "[I") ∈ GT := mTE (sE_4_11 (mc13 List.mem_cons_self)) rfl
theorem wt_910 : (Jvm.Cond.fieldLink "AsleepPassModel" (54 : Nat) "AsleepPassModel" "lengths" "[I") ∈ GT := mTE (sE_4_11 (mc14 List.mem_cons_self)) rfl
theorem wt_911 : (Jvm.Cond.fieldLink "AsleepPassModel" (57 : Nat) "AsleepPassModel" "cells" "[I") ∈ GT := mTE (sE_4_11 (mc15 List.mem_cons_self)) rfl
theorem wt_912 : (Jvm.Cond.fieldLink "AsleepPassModel" (259 : Nat) "AsleepPassModel" "torn" "I") ∈ GT := mTE (sE_4_12 List.mem_cons_self) rfl
theorem wt_913 : (Jvm.Cond.laysFinal "AsleepPassModel" "AsleepPassModel" "state" "[I") ∈ GT := mTE (sE_4_12 (mc1 List.mem_cons_self)) rfl
theorem wt_915 : (Jvm.Cond.lays "AsleepPassModel" "AsleepPassModel" "stretchMany" "I") ∈ GT := mTE (sE_4_12 (mc3 List.mem_cons_self)) rfl
theorem wt_917 : (Jvm.Cond.lays "AsleepPassModel" "AsleepPassModel" "bearerMany" "I") ∈ GT := mTE (sE_4_12 (mc5 List.mem_cons_self)) rfl
theorem wt_919 : (Jvm.Cond.laysFinal "AsleepPassModel" "AsleepPassModel" "readPage" "[I") ∈ GT := mTE (sE_4_12 (mc7 List.mem_cons_self)) rfl
theorem wt_921 : (Jvm.Cond.lays "AsleepPassModel" "AsleepPassModel" "readStretches" "I") ∈ GT := mTE (sE_4_12 (mc9 List.mem_cons_self)) rfl
theorem wt_923 : (Jvm.Cond.lays "AsleepPassModel" "AsleepPassModel" "readBearers" "I") ∈ GT := mTE (sE_4_12 (mc11 List.mem_cons_self)) rfl
theorem wt_925 : (Jvm.Cond.lays "AsleepPassModel" "AsleepPassModel" "hasStart" "Z") ∈ GT := mTE (sE_4_12 (mc13 List.mem_cons_self)) rfl
theorem wt_927 : (Jvm.Cond.lays "AsleepPassModel" "AsleepPassModel" "carried" "I") ∈ GT := mTE (sE_4_12 (mc15 List.mem_cons_self)) rfl
theorem wt_929 : (Jvm.Cond.lays "AsleepPassModel" "AsleepPassModel" "highStretch" "I") ∈ GT := mTE (sE_4_13 (mc1 List.mem_cons_self)) rfl
theorem wt_931 : (Jvm.Cond.lays "AsleepPassModel" "AsleepPassModel" "highBearer" "I") ∈ GT := mTE (sE_4_13 (mc3 List.mem_cons_self)) rfl
theorem wt_933 : (Jvm.Cond.laysFinal "AsleepPassModel" "AsleepPassModel" "tape" "[I") ∈ GT := mTE (sE_4_13 (mc5 List.mem_cons_self)) rfl
theorem wt_935 : (Jvm.Cond.lays "AsleepPassModel" "AsleepPassModel" "taped" "I") ∈ GT := mTE (sE_4_13 (mc7 List.mem_cons_self)) rfl
theorem wt_937 : (Jvm.Cond.lays "AsleepPassModel" "AsleepPassModel" "fault" "I") ∈ GT := mTE (sE_4_13 (mc9 List.mem_cons_self)) rfl
theorem wt_939 : (Jvm.Cond.lays "AsleepPassModel" "AsleepPassModel" "broken" "I") ∈ GT := mTE (sE_4_13 (mc11 List.mem_cons_self)) rfl
theorem wt_941 : (Jvm.Cond.lays "AsleepPassModel" "AsleepPassModel" "brokenAt" "I") ∈ GT := mTE (sE_4_13 (mc13 List.mem_cons_self)) rfl
theorem wt_943 : (Jvm.Cond.lays "AsleepPassModel" "AsleepPassModel" "spot" "I") ∈ GT := mTE (sE_4_13 (mc15 List.mem_cons_self)) rfl
theorem wt_945 : (Jvm.Cond.lays "AsleepPassModel" "AsleepPassModel" "here" "I") ∈ GT := mTE (sE_4_14 (mc1 List.mem_cons_self)) rfl
theorem wt_947 : (Jvm.Cond.lays "AsleepPassModel" "AsleepPassModel" "token" "I") ∈ GT := mTE (sE_4_14 (mc3 List.mem_cons_self)) rfl
theorem wt_949 : (Jvm.Cond.lays "AsleepPassModel" "AsleepPassModel" "value" "I") ∈ GT := mTE (sE_4_14 (mc5 List.mem_cons_self)) rfl
theorem wt_951 : (Jvm.Cond.laysFinal "AsleepPassModel" "AsleepPassModel" "cuts" "[I") ∈ GT := mTE (sE_4_14 (mc7 List.mem_cons_self)) rfl
theorem wt_953 : (Jvm.Cond.laysFinal "AsleepPassModel" "AsleepPassModel" "letters" "[I") ∈ GT := mTE (sE_4_14 (mc9 List.mem_cons_self)) rfl
theorem wt_955 : (Jvm.Cond.laysFinal "AsleepPassModel" "AsleepPassModel" "odds" "[J") ∈ GT := mTE (sE_4_14 (mc11 List.mem_cons_self)) rfl
theorem wt_957 : (Jvm.Cond.laysFinal "AsleepPassModel" "AsleepPassModel" "then" "[J") ∈ GT := mTE (sE_4_14 (mc13 List.mem_cons_self)) rfl
theorem wt_959 : (Jvm.Cond.laysFinal "AsleepPassModel" "AsleepPassModel" "bests" "[J") ∈ GT := mTE (sE_4_14 (mc15 List.mem_cons_self)) rfl
theorem wt_961 : (Jvm.Cond.laysFinal "AsleepPassModel" "AsleepPassModel" "learnt" "[I") ∈ GT := mTE (sE_5_0 (mc1 List.mem_cons_self)) rfl
theorem wt_963 : (Jvm.Cond.lays "AsleepPassModel" "AsleepPassModel" "learntMany" "I") ∈ GT := mTE (sE_5_0 (mc3 List.mem_cons_self)) rfl
theorem wt_965 : (Jvm.Cond.laysFinal "AsleepPassModel" "AsleepPassModel" "marks" "[I") ∈ GT := mTE (sE_5_0 (mc5 List.mem_cons_self)) rfl
theorem wt_967 : (Jvm.Cond.lays "AsleepPassModel" "AsleepPassModel" "markMany" "I") ∈ GT := mTE (sE_5_0 (mc7 List.mem_cons_self)) rfl
theorem wt_969 : (Jvm.Cond.laysFinal "AsleepPassModel" "AsleepPassModel" "ahead" "[I") ∈ GT := mTE (sE_5_0 (mc9 List.mem_cons_self)) rfl
theorem wt_971 : (Jvm.Cond.laysFinal "AsleepPassModel" "AsleepPassModel" "behind" "[I") ∈ GT := mTE (sE_5_0 (mc11 List.mem_cons_self)) rfl
theorem wt_973 : (Jvm.Cond.laysFinal "AsleepPassModel" "AsleepPassModel" "isKept" "[Z") ∈ GT := mTE (sE_5_0 (mc13 List.mem_cons_self)) rfl
theorem wt_975 : (Jvm.Cond.laysFinal "AsleepPassModel" "AsleepPassModel" "lanes" "[I") ∈ GT := mTE (sE_5_0 (mc15 List.mem_cons_self)) rfl
theorem wt_977 : (Jvm.Cond.laysFinal "AsleepPassModel" "AsleepPassModel" "lengths" "[I") ∈ GT := mTE (sE_5_1 (mc1 List.mem_cons_self)) rfl
theorem wt_979 : (Jvm.Cond.laysFinal "AsleepPassModel" "AsleepPassModel" "cells" "[I") ∈ GT := mTE (sE_5_1 (mc3 List.mem_cons_self)) rfl
theorem wt_981 : (Jvm.Cond.lays "AsleepPassModel" "AsleepPassModel" "torn" "I") ∈ GT := mTE (sE_5_1 (mc5 List.mem_cons_self)) rfl
theorem wt_984 : (Jvm.Cond.methodLink "AsleepPassLaw" (19 : Nat) ({ cls := "AsleepPassModel", name := "feed", desc := "(J)I" } : Jvm.MethodName)) ∈ GT := mTE (sE_5_1 (mc8 List.mem_cons_self)) rfl
theorem wt_985 : (Jvm.Cond.instanceMethod ({ cls := "AsleepPassModel", name := "feed", desc := "(J)I" } : Jvm.MethodName)) ∈ GT := mTE (sE_5_1 (mc9 List.mem_cons_self)) rfl
theorem wt_986 : (Jvm.Cond.selects "AsleepPassModel" ({ cls := "AsleepPassModel", name := "feed", desc := "(J)I" } : Jvm.MethodName) ({ cls := "AsleepPassModel", name := "feed", desc := "(J)I" } : Jvm.MethodName)) ∈ GT := mTE (sE_5_1 (mc10 List.mem_cons_self)) rfl
theorem wt_987 : (Jvm.Cond.code ({ cls := "AsleepPassModel", name := "feed", desc := "(J)I" } : Jvm.MethodName) prog_13_method_4_code (4 : Nat) (Option.some Jvm.ClassFile.FieldType.int)) ∈ GT := mTE (sE_5_1 (mc11 List.mem_cons_self)) rfl
theorem wt_988 : (Jvm.Cond.methodLink "AsleepPassLaw" (24 : Nat) ({ cls := "AsleepPassModel", name := "end", desc := "(I)I" } : Jvm.MethodName)) ∈ GT := mTE (sE_5_1 (mc12 List.mem_cons_self)) rfl
theorem wt_989 : (Jvm.Cond.instanceMethod ({ cls := "AsleepPassModel", name := "end", desc := "(I)I" } : Jvm.MethodName)) ∈ GT := mTE (sE_5_1 (mc13 List.mem_cons_self)) rfl
theorem wt_990 : (Jvm.Cond.selects "AsleepPassModel" ({ cls := "AsleepPassModel", name := "end", desc := "(I)I" } : Jvm.MethodName) ({ cls := "AsleepPassModel", name := "end", desc := "(I)I" } : Jvm.MethodName)) ∈ GT := mTE (sE_5_1 (mc14 List.mem_cons_self)) rfl
theorem wt_991 : (Jvm.Cond.code ({ cls := "AsleepPassModel", name := "end", desc := "(I)I" } : Jvm.MethodName) prog_13_method_5_code (3 : Nat) (Option.some Jvm.ClassFile.FieldType.int)) ∈ GT := mTE (sE_5_1 (mc15 List.mem_cons_self)) rfl
theorem wt_992 : (Jvm.Cond.methodLink "AsleepPassModel" (64 : Nat) ({ cls := "AsleepPassModel", name := "in", desc := "(JJJ)Z" } : Jvm.MethodName)) ∈ GT := mTE (sE_5_2 List.mem_cons_self) rfl
theorem wt_993 : (Jvm.Cond.static ({ cls := "AsleepPassModel", name := "in", desc := "(JJJ)Z" } : Jvm.MethodName)) ∈ GT := mTE (sE_5_2 (mc1 List.mem_cons_self)) rfl
theorem wt_994 : (Jvm.Cond.code ({ cls := "AsleepPassModel", name := "in", desc := "(JJJ)Z" } : Jvm.MethodName) prog_13_method_3_code (6 : Nat) (Option.some Jvm.ClassFile.FieldType.boolean)) ∈ GT := mTE (sE_5_2 (mc2 List.mem_cons_self)) rfl
theorem wt_995 : (Jvm.Cond.methodLink "AsleepPassLaw" (29 : Nat) ({ cls := "AsleepPassModel", name := "text", desc := "()I" } : Jvm.MethodName)) ∈ GT := mTE (sE_5_2 (mc3 List.mem_cons_self)) rfl
theorem wt_996 : (Jvm.Cond.instanceMethod ({ cls := "AsleepPassModel", name := "text", desc := "()I" } : Jvm.MethodName)) ∈ GT := mTE (sE_5_2 (mc4 List.mem_cons_self)) rfl
theorem wt_997 : (Jvm.Cond.selects "AsleepPassModel" ({ cls := "AsleepPassModel", name := "text", desc := "()I" } : Jvm.MethodName) ({ cls := "AsleepPassModel", name := "text", desc := "()I" } : Jvm.MethodName)) ∈ GT := mTE (sE_5_2 (mc5 List.mem_cons_self)) rfl
theorem wt_998 : (Jvm.Cond.code ({ cls := "AsleepPassModel", name := "text", desc := "()I" } : Jvm.MethodName) prog_13_method_14_code (3 : Nat) (Option.some Jvm.ClassFile.FieldType.int)) ∈ GT := mTE (sE_5_2 (mc6 List.mem_cons_self)) rfl
theorem wt_999 : (Jvm.Cond.methodLink "AsleepPassModel" (102 : Nat) ({ cls := "AsleepPassModel", name := "goesOn", desc := "()V" } : Jvm.MethodName)) ∈ GT := mTE (sE_5_2 (mc7 List.mem_cons_self)) rfl
theorem wt_1001 : (Jvm.Cond.instanceMethod ({ cls := "AsleepPassModel", name := "goesOn", desc := "()V" } : Jvm.MethodName)) ∈ GT := mTE (sE_5_2 (mc9 List.mem_cons_self)) rfl
theorem wt_1002 : (Jvm.Cond.code ({ cls := "AsleepPassModel", name := "goesOn", desc := "()V" } : Jvm.MethodName) prog_13_method_9_code (2 : Nat) (Option.none : Option Jvm.ClassFile.FieldType)) ∈ GT := mTE (sE_5_2 (mc10 List.mem_cons_self)) rfl
theorem wt_1003 : (Jvm.Cond.methodLink "AsleepPassModel" (83 : Nat) ({ cls := "AsleepPassModel", name := "byteAt", desc := "(I)I" } : Jvm.MethodName)) ∈ GT := mTE (sE_5_2 (mc11 List.mem_cons_self)) rfl
theorem wt_1005 : (Jvm.Cond.instanceMethod ({ cls := "AsleepPassModel", name := "byteAt", desc := "(I)I" } : Jvm.MethodName)) ∈ GT := mTE (sE_5_2 (mc13 List.mem_cons_self)) rfl
theorem wt_1006 : (Jvm.Cond.code ({ cls := "AsleepPassModel", name := "byteAt", desc := "(I)I" } : Jvm.MethodName) prog_13_method_6_code (2 : Nat) (Option.some Jvm.ClassFile.FieldType.int)) ∈ GT := mTE (sE_5_2 (mc14 List.mem_cons_self)) rfl
theorem wt_1007 : (Jvm.Cond.constantLong "AsleepPassModel" (90 : Nat) (97 : Int64)) ∈ GT := mTE (sE_5_2 (mc15 List.mem_cons_self)) rfl
theorem wt_1008 : (Jvm.Cond.constantLong "AsleepPassModel" (92 : Nat) (122 : Int64)) ∈ GT := mTE (sE_5_3 List.mem_cons_self) rfl
theorem wt_1009 : (Jvm.Cond.constantLong "AsleepPassModel" (94 : Nat) (48 : Int64)) ∈ GT := mTE (sE_5_3 (mc1 List.mem_cons_self)) rfl
theorem wt_1010 : (Jvm.Cond.constantLong "AsleepPassModel" (96 : Nat) (57 : Int64)) ∈ GT := mTE (sE_5_3 (mc2 List.mem_cons_self)) rfl
theorem wt_1011 : (Jvm.Cond.methodLink "AsleepPassModel" (98 : Nat) ({ cls := "AsleepPassModel", name := "fails", desc := "(I)V" } : Jvm.MethodName)) ∈ GT := mTE (sE_5_3 (mc3 List.mem_cons_self)) rfl
theorem wt_1013 : (Jvm.Cond.instanceMethod ({ cls := "AsleepPassModel", name := "fails", desc := "(I)V" } : Jvm.MethodName)) ∈ GT := mTE (sE_5_3 (mc5 List.mem_cons_self)) rfl
theorem wt_1014 : (Jvm.Cond.code ({ cls := "AsleepPassModel", name := "fails", desc := "(I)V" } : Jvm.MethodName) prog_13_method_7_code (2 : Nat) (Option.none : Option Jvm.ClassFile.FieldType)) ∈ GT := mTE (sE_5_3 (mc6 List.mem_cons_self)) rfl
theorem wt_1015 : (Jvm.Cond.methodLink "AsleepPassModel" (140 : Nat) ({ cls := "AsleepPassModel", name := "readLine", desc := "()V" } : Jvm.MethodName)) ∈ GT := mTE (sE_5_3 (mc7 List.mem_cons_self)) rfl
theorem wt_1017 : (Jvm.Cond.instanceMethod ({ cls := "AsleepPassModel", name := "readLine", desc := "()V" } : Jvm.MethodName)) ∈ GT := mTE (sE_5_3 (mc9 List.mem_cons_self)) rfl
theorem wt_1018 : (Jvm.Cond.code ({ cls := "AsleepPassModel", name := "readLine", desc := "()V" } : Jvm.MethodName) prog_13_method_13_code (2 : Nat) (Option.none : Option Jvm.ClassFile.FieldType)) ∈ GT := mTE (sE_5_3 (mc10 List.mem_cons_self)) rfl
theorem wt_1019 : (Jvm.Cond.methodLink "AsleepPassModel" (108 : Nat) ({ cls := "AsleepPassModel", name := "nameHere", desc := "()I" } : Jvm.MethodName)) ∈ GT := mTE (sE_5_3 (mc11 List.mem_cons_self)) rfl
theorem wt_1021 : (Jvm.Cond.instanceMethod ({ cls := "AsleepPassModel", name := "nameHere", desc := "()I" } : Jvm.MethodName)) ∈ GT := mTE (sE_5_3 (mc13 List.mem_cons_self)) rfl
theorem wt_1022 : (Jvm.Cond.code ({ cls := "AsleepPassModel", name := "nameHere", desc := "()I" } : Jvm.MethodName) prog_13_method_8_code (4 : Nat) (Option.some Jvm.ClassFile.FieldType.int)) ∈ GT := mTE (sE_5_3 (mc14 List.mem_cons_self)) rfl
theorem wt_1023 : (Jvm.Cond.constantLong "AsleepPassModel" (132 : Nat) (3 : Int64)) ∈ GT := mTE (sE_5_3 (mc15 List.mem_cons_self)) rfl
theorem wt_1024 : (Jvm.Cond.methodLink "AsleepPassModel" (134 : Nat) ({ cls := "AsleepPassModel", name := "readBearer", desc := "()V" } : Jvm.MethodName)) ∈ GT := mTE (sE_5_4 List.mem_cons_self) rfl
theorem wt_1026 : (Jvm.Cond.instanceMethod ({ cls := "AsleepPassModel", name := "readBearer", desc := "()V" } : Jvm.MethodName)) ∈ GT := mTE (sE_5_4 (mc2 List.mem_cons_self)) rfl
theorem wt_1027 : (Jvm.Cond.code ({ cls := "AsleepPassModel", name := "readBearer", desc := "()V" } : Jvm.MethodName) prog_13_method_11_code (3 : Nat) (Option.none : Option Jvm.ClassFile.FieldType)) ∈ GT := mTE (sE_5_4 (mc3 List.mem_cons_self)) rfl
theorem wt_1028 : (Jvm.Cond.methodLink "AsleepPassModel" (112 : Nat) ({ cls := "AsleepPassModel", name := "other", desc := "(III)I" } : Jvm.MethodName)) ∈ GT := mTE (sE_5_4 (mc4 List.mem_cons_self)) rfl
theorem wt_1030 : (Jvm.Cond.instanceMethod ({ cls := "AsleepPassModel", name := "other", desc := "(III)I" } : Jvm.MethodName)) ∈ GT := mTE (sE_5_4 (mc6 List.mem_cons_self)) rfl
theorem wt_1031 : (Jvm.Cond.code ({ cls := "AsleepPassModel", name := "other", desc := "(III)I" } : Jvm.MethodName) prog_13_method_10_code (5 : Nat) (Option.some Jvm.ClassFile.FieldType.int)) ∈ GT := mTE (sE_5_4 (mc7 List.mem_cons_self)) rfl
theorem wt_1032 : (Jvm.Cond.methodLink "AsleepPassModel" (137 : Nat) ({ cls := "AsleepPassModel", name := "readMore", desc := "(I)V" } : Jvm.MethodName)) ∈ GT := mTE (sE_5_4 (mc8 List.mem_cons_self)) rfl
theorem wt_1034 : (Jvm.Cond.instanceMethod ({ cls := "AsleepPassModel", name := "readMore", desc := "(I)V" } : Jvm.MethodName)) ∈ GT := mTE (sE_5_4 (mc10 List.mem_cons_self)) rfl
theorem wt_1035 : (Jvm.Cond.code ({ cls := "AsleepPassModel", name := "readMore", desc := "(I)V" } : Jvm.MethodName) prog_13_method_12_code (4 : Nat) (Option.none : Option Jvm.ClassFile.FieldType)) ∈ GT := mTE (sE_5_4 (mc11 List.mem_cons_self)) rfl
theorem wt_1036 : (Jvm.Cond.methodLink "AsleepPassLaw" (33 : Nat) ({ cls := "AsleepPassModel", name := "fault", desc := "()I" } : Jvm.MethodName)) ∈ GT := mTE (sE_5_4 (mc12 List.mem_cons_self)) rfl
theorem wt_1037 : (Jvm.Cond.instanceMethod ({ cls := "AsleepPassModel", name := "fault", desc := "()I" } : Jvm.MethodName)) ∈ GT := mTE (sE_5_4 (mc13 List.mem_cons_self)) rfl
theorem wt_1038 : (Jvm.Cond.selects "AsleepPassModel" ({ cls := "AsleepPassModel", name := "fault", desc := "()I" } : Jvm.MethodName) ({ cls := "AsleepPassModel", name := "fault", desc := "()I" } : Jvm.MethodName)) ∈ GT := mTE (sE_5_4 (mc14 List.mem_cons_self)) rfl
theorem wt_1039 : (Jvm.Cond.code ({ cls := "AsleepPassModel", name := "fault", desc := "()I" } : Jvm.MethodName) prog_13_method_15_code (1 : Nat) (Option.some Jvm.ClassFile.FieldType.int)) ∈ GT := mTE (sE_5_4 (mc15 List.mem_cons_self)) rfl
theorem wt_1040 : (Jvm.Cond.methodLink "AsleepPassLaw" (37 : Nat) ({ cls := "AsleepPassModel", name := "rule", desc := "(I)I" } : Jvm.MethodName)) ∈ GT := mTE (sE_5_5 List.mem_cons_self) rfl
theorem wt_1041 : (Jvm.Cond.instanceMethod ({ cls := "AsleepPassModel", name := "rule", desc := "(I)I" } : Jvm.MethodName)) ∈ GT := mTE (sE_5_5 (mc1 List.mem_cons_self)) rfl
theorem wt_1042 : (Jvm.Cond.selects "AsleepPassModel" ({ cls := "AsleepPassModel", name := "rule", desc := "(I)I" } : Jvm.MethodName) ({ cls := "AsleepPassModel", name := "rule", desc := "(I)I" } : Jvm.MethodName)) ∈ GT := mTE (sE_5_5 (mc2 List.mem_cons_self)) rfl
theorem wt_1043 : (Jvm.Cond.code ({ cls := "AsleepPassModel", name := "rule", desc := "(I)I" } : Jvm.MethodName) prog_13_method_19_code (2 : Nat) (Option.some Jvm.ClassFile.FieldType.int)) ∈ GT := mTE (sE_5_5 (mc3 List.mem_cons_self)) rfl
theorem wt_1044 : (Jvm.Cond.methodLink "AsleepPassModel" (158 : Nat) ({ cls := "AsleepPassModel", name := "startNow", desc := "()I" } : Jvm.MethodName)) ∈ GT := mTE (sE_5_5 (mc4 List.mem_cons_self)) rfl
theorem wt_1046 : (Jvm.Cond.instanceMethod ({ cls := "AsleepPassModel", name := "startNow", desc := "()I" } : Jvm.MethodName)) ∈ GT := mTE (sE_5_5 (mc6 List.mem_cons_self)) rfl
theorem wt_1047 : (Jvm.Cond.code ({ cls := "AsleepPassModel", name := "startNow", desc := "()I" } : Jvm.MethodName) prog_13_method_18_code (1 : Nat) (Option.some Jvm.ClassFile.FieldType.int)) ∈ GT := mTE (sE_5_5 (mc7 List.mem_cons_self)) rfl
theorem wt_1048 : (Jvm.Cond.methodLink "AsleepPassLaw" (42 : Nat) ({ cls := "AsleepPassModel", name := "stretch", desc := "(II)I" } : Jvm.MethodName)) ∈ GT := mTE (sE_5_5 (mc8 List.mem_cons_self)) rfl
theorem wt_1049 : (Jvm.Cond.instanceMethod ({ cls := "AsleepPassModel", name := "stretch", desc := "(II)I" } : Jvm.MethodName)) ∈ GT := mTE (sE_5_5 (mc9 List.mem_cons_self)) rfl
theorem wt_1050 : (Jvm.Cond.selects "AsleepPassModel" ({ cls := "AsleepPassModel", name := "stretch", desc := "(II)I" } : Jvm.MethodName) ({ cls := "AsleepPassModel", name := "stretch", desc := "(II)I" } : Jvm.MethodName)) ∈ GT := mTE (sE_5_5 (mc10 List.mem_cons_self)) rfl
theorem wt_1051 : (Jvm.Cond.code ({ cls := "AsleepPassModel", name := "stretch", desc := "(II)I" } : Jvm.MethodName) prog_13_method_20_code (3 : Nat) (Option.some Jvm.ClassFile.FieldType.int)) ∈ GT := mTE (sE_5_5 (mc11 List.mem_cons_self)) rfl
theorem wt_1052 : (Jvm.Cond.methodLink "AsleepPassModel" (161 : Nat) ({ cls := "AsleepPassModel", name := "isStretch", desc := "(I)Z" } : Jvm.MethodName)) ∈ GT := mTE (sE_5_5 (mc12 List.mem_cons_self)) rfl
theorem wt_1054 : (Jvm.Cond.instanceMethod ({ cls := "AsleepPassModel", name := "isStretch", desc := "(I)Z" } : Jvm.MethodName)) ∈ GT := mTE (sE_5_5 (mc14 List.mem_cons_self)) rfl
theorem wt_1055 : (Jvm.Cond.code ({ cls := "AsleepPassModel", name := "isStretch", desc := "(I)Z" } : Jvm.MethodName) prog_13_method_16_code (2 : Nat) (Option.some Jvm.ClassFile.FieldType.boolean)) ∈ GT := mTE (sE_5_5 (mc15 List.mem_cons_self)) rfl
theorem wt_1056 : (Jvm.Cond.constantLong "AsleepPassModel" (165 : Nat) (2 : Int64)) ∈ GT := mTE (sE_5_6 List.mem_cons_self) rfl
theorem wt_1057 : (Jvm.Cond.methodLink "AsleepPassLaw" (46 : Nat) ({ cls := "AsleepPassModel", name := "bearer", desc := "(II)I" } : Jvm.MethodName)) ∈ GT := mTE (sE_5_6 (mc1 List.mem_cons_self)) rfl
theorem wt_1058 : (Jvm.Cond.instanceMethod ({ cls := "AsleepPassModel", name := "bearer", desc := "(II)I" } : Jvm.MethodName)) ∈ GT := mTE (sE_5_6 (mc2 List.mem_cons_self)) rfl
theorem wt_1059 : (Jvm.Cond.selects "AsleepPassModel" ({ cls := "AsleepPassModel", name := "bearer", desc := "(II)I" } : Jvm.MethodName) ({ cls := "AsleepPassModel", name := "bearer", desc := "(II)I" } : Jvm.MethodName)) ∈ GT := mTE (sE_5_6 (mc3 List.mem_cons_self)) rfl
theorem wt_1060 : (Jvm.Cond.code ({ cls := "AsleepPassModel", name := "bearer", desc := "(II)I" } : Jvm.MethodName) prog_13_method_21_code (3 : Nat) (Option.some Jvm.ClassFile.FieldType.int)) ∈ GT := mTE (sE_5_6 (mc4 List.mem_cons_self)) rfl
theorem wt_1061 : (Jvm.Cond.methodLink "AsleepPassModel" (167 : Nat) ({ cls := "AsleepPassModel", name := "isBearer", desc := "(I)Z" } : Jvm.MethodName)) ∈ GT := mTE (sE_5_6 (mc5 List.mem_cons_self)) rfl
theorem wt_1063 : (Jvm.Cond.instanceMethod ({ cls := "AsleepPassModel", name := "isBearer", desc := "(I)Z" } : Jvm.MethodName)) ∈ GT := mTE (sE_5_6 (mc7 List.mem_cons_self)) rfl
theorem wt_1064 : (Jvm.Cond.code ({ cls := "AsleepPassModel", name := "isBearer", desc := "(I)Z" } : Jvm.MethodName) prog_13_method_17_code (2 : Nat) (Option.some Jvm.ClassFile.FieldType.boolean)) ∈ GT := mTE (sE_5_6 (mc8 List.mem_cons_self)) rfl
theorem wt_1065 : (Jvm.Cond.methodLink "AsleepPassLaw" (50 : Nat) ({ cls := "AsleepPassModel", name := "start", desc := "(I)I" } : Jvm.MethodName)) ∈ GT := mTE (sE_5_6 (mc9 List.mem_cons_self)) rfl
theorem wt_1066 : (Jvm.Cond.instanceMethod ({ cls := "AsleepPassModel", name := "start", desc := "(I)I" } : Jvm.MethodName)) ∈ GT := mTE (sE_5_6 (mc10 List.mem_cons_self)) rfl
theorem wt_1067 : (Jvm.Cond.selects "AsleepPassModel" ({ cls := "AsleepPassModel", name := "start", desc := "(I)I" } : Jvm.MethodName) ({ cls := "AsleepPassModel", name := "start", desc := "(I)I" } : Jvm.MethodName)) ∈ GT := mTE (sE_5_6 (mc11 List.mem_cons_self)) rfl
theorem wt_1068 : (Jvm.Cond.code ({ cls := "AsleepPassModel", name := "start", desc := "(I)I" } : Jvm.MethodName) prog_13_method_23_code (2 : Nat) (Option.some Jvm.ClassFile.FieldType.int)) ∈ GT := mTE (sE_5_6 (mc12 List.mem_cons_self)) rfl
theorem wt_1069 : (Jvm.Cond.constantLong "AsleepPassModel" (170 : Nat) (9 : Int64)) ∈ GT := mTE (sE_5_6 (mc13 List.mem_cons_self)) rfl
theorem wt_1070 : (Jvm.Cond.methodLink "AsleepPassModel" (172 : Nat) ({ cls := "AsleepPassModel", name := "sets", desc := "(ZII)I" } : Jvm.MethodName)) ∈ GT := mTE (sE_5_6 (mc14 List.mem_cons_self)) rfl
theorem wt_1072 : (Jvm.Cond.instanceMethod ({ cls := "AsleepPassModel", name := "sets", desc := "(ZII)I" } : Jvm.MethodName)) ∈ GT := mTE (sE_5_7 List.mem_cons_self) rfl
theorem wt_1073 : (Jvm.Cond.code ({ cls := "AsleepPassModel", name := "sets", desc := "(ZII)I" } : Jvm.MethodName) prog_13_method_22_code (5 : Nat) (Option.some Jvm.ClassFile.FieldType.int)) ∈ GT := mTE (sE_5_7 (mc1 List.mem_cons_self)) rfl
theorem wt_1074 : (Jvm.Cond.methodLink "AsleepPassLaw" (54 : Nat) ({ cls := "AsleepPassModel", name := "noise", desc := "(II)I" } : Jvm.MethodName)) ∈ GT := mTE (sE_5_7 (mc2 List.mem_cons_self)) rfl
theorem wt_1075 : (Jvm.Cond.instanceMethod ({ cls := "AsleepPassModel", name := "noise", desc := "(II)I" } : Jvm.MethodName)) ∈ GT := mTE (sE_5_7 (mc3 List.mem_cons_self)) rfl
theorem wt_1076 : (Jvm.Cond.selects "AsleepPassModel" ({ cls := "AsleepPassModel", name := "noise", desc := "(II)I" } : Jvm.MethodName) ({ cls := "AsleepPassModel", name := "noise", desc := "(II)I" } : Jvm.MethodName)) ∈ GT := mTE (sE_5_7 (mc4 List.mem_cons_self)) rfl
theorem wt_1077 : (Jvm.Cond.code ({ cls := "AsleepPassModel", name := "noise", desc := "(II)I" } : Jvm.MethodName) prog_13_method_24_code (3 : Nat) (Option.some Jvm.ClassFile.FieldType.int)) ∈ GT := mTE (sE_5_7 (mc5 List.mem_cons_self)) rfl
theorem wt_1078 : (Jvm.Cond.methodLink "AsleepPassLaw" (58 : Nat) ({ cls := "AsleepPassModel", name := "cold", desc := "(II)I" } : Jvm.MethodName)) ∈ GT := mTE (sE_5_7 (mc6 List.mem_cons_self)) rfl
theorem wt_1079 : (Jvm.Cond.instanceMethod ({ cls := "AsleepPassModel", name := "cold", desc := "(II)I" } : Jvm.MethodName)) ∈ GT := mTE (sE_5_7 (mc7 List.mem_cons_self)) rfl
theorem wt_1080 : (Jvm.Cond.selects "AsleepPassModel" ({ cls := "AsleepPassModel", name := "cold", desc := "(II)I" } : Jvm.MethodName) ({ cls := "AsleepPassModel", name := "cold", desc := "(II)I" } : Jvm.MethodName)) ∈ GT := mTE (sE_5_7 (mc8 List.mem_cons_self)) rfl
theorem wt_1081 : (Jvm.Cond.code ({ cls := "AsleepPassModel", name := "cold", desc := "(II)I" } : Jvm.MethodName) prog_13_method_25_code (3 : Nat) (Option.some Jvm.ClassFile.FieldType.int)) ∈ GT := mTE (sE_5_7 (mc9 List.mem_cons_self)) rfl
theorem wt_1082 : (Jvm.Cond.methodLink "AsleepPassLaw" (62 : Nat) ({ cls := "AsleepPassModel", name := "step", desc := "(II)I" } : Jvm.MethodName)) ∈ GT := mTE (sE_5_7 (mc10 List.mem_cons_self)) rfl
theorem wt_1083 : (Jvm.Cond.instanceMethod ({ cls := "AsleepPassModel", name := "step", desc := "(II)I" } : Jvm.MethodName)) ∈ GT := mTE (sE_5_7 (mc11 List.mem_cons_self)) rfl
theorem wt_1084 : (Jvm.Cond.selects "AsleepPassModel" ({ cls := "AsleepPassModel", name := "step", desc := "(II)I" } : Jvm.MethodName) ({ cls := "AsleepPassModel", name := "step", desc := "(II)I" } : Jvm.MethodName)) ∈ GT := mTE (sE_5_7 (mc12 List.mem_cons_self)) rfl
theorem wt_1085 : (Jvm.Cond.code ({ cls := "AsleepPassModel", name := "step", desc := "(II)I" } : Jvm.MethodName) prog_13_method_26_code (3 : Nat) (Option.some Jvm.ClassFile.FieldType.int)) ∈ GT := mTE (sE_5_7 (mc13 List.mem_cons_self)) rfl
theorem wt_1086 : (Jvm.Cond.methodLink "AsleepPassLaw" (66 : Nat) ({ cls := "AsleepPassModel", name := "warm", desc := "(II)I" } : Jvm.MethodName)) ∈ GT := mTE (sE_5_7 (mc14 List.mem_cons_self)) rfl
theorem wt_1087 : (Jvm.Cond.instanceMethod ({ cls := "AsleepPassModel", name := "warm", desc := "(II)I" } : Jvm.MethodName)) ∈ GT := mTE (sE_5_7 (mc15 List.mem_cons_self)) rfl
theorem wt_1088 : (Jvm.Cond.selects "AsleepPassModel" ({ cls := "AsleepPassModel", name := "warm", desc := "(II)I" } : Jvm.MethodName) ({ cls := "AsleepPassModel", name := "warm", desc := "(II)I" } : Jvm.MethodName)) ∈ GT := mTE (sE_5_8 List.mem_cons_self) rfl
theorem wt_1089 : (Jvm.Cond.code ({ cls := "AsleepPassModel", name := "warm", desc := "(II)I" } : Jvm.MethodName) prog_13_method_27_code (3 : Nat) (Option.some Jvm.ClassFile.FieldType.int)) ∈ GT := mTE (sE_5_8 (mc1 List.mem_cons_self)) rfl
theorem wt_1090 : (Jvm.Cond.methodLink "AsleepPassLaw" (70 : Nat) ({ cls := "AsleepPassModel", name := "put", desc := "(II)I" } : Jvm.MethodName)) ∈ GT := mTE (sE_5_8 (mc2 List.mem_cons_self)) rfl
theorem wt_1091 : (Jvm.Cond.instanceMethod ({ cls := "AsleepPassModel", name := "put", desc := "(II)I" } : Jvm.MethodName)) ∈ GT := mTE (sE_5_8 (mc3 List.mem_cons_self)) rfl
theorem wt_1092 : (Jvm.Cond.selects "AsleepPassModel" ({ cls := "AsleepPassModel", name := "put", desc := "(II)I" } : Jvm.MethodName) ({ cls := "AsleepPassModel", name := "put", desc := "(II)I" } : Jvm.MethodName)) ∈ GT := mTE (sE_5_8 (mc4 List.mem_cons_self)) rfl
theorem wt_1093 : (Jvm.Cond.code ({ cls := "AsleepPassModel", name := "put", desc := "(II)I" } : Jvm.MethodName) prog_13_method_29_code (3 : Nat) (Option.some Jvm.ClassFile.FieldType.int)) ∈ GT := mTE (sE_5_8 (mc5 List.mem_cons_self)) rfl
theorem wt_1094 : (Jvm.Cond.methodLink "AsleepPassModel" (176 : Nat) ({ cls := "AsleepPassModel", name := "puts", desc := "(II)I" } : Jvm.MethodName)) ∈ GT := mTE (sE_5_8 (mc6 List.mem_cons_self)) rfl
theorem wt_1096 : (Jvm.Cond.instanceMethod ({ cls := "AsleepPassModel", name := "puts", desc := "(II)I" } : Jvm.MethodName)) ∈ GT := mTE (sE_5_8 (mc8 List.mem_cons_self)) rfl
theorem wt_1097 : (Jvm.Cond.code ({ cls := "AsleepPassModel", name := "puts", desc := "(II)I" } : Jvm.MethodName) prog_13_method_28_code (3 : Nat) (Option.some Jvm.ClassFile.FieldType.int)) ∈ GT := mTE (sE_5_8 (mc9 List.mem_cons_self)) rfl
theorem wt_1098 : (Jvm.Cond.methodLink "AsleepPassLaw" (75 : Nat) ({ cls := "AsleepPassModel", name := "harm", desc := "(III)I" } : Jvm.MethodName)) ∈ GT := mTE (sE_5_8 (mc10 List.mem_cons_self)) rfl
theorem wt_1099 : (Jvm.Cond.instanceMethod ({ cls := "AsleepPassModel", name := "harm", desc := "(III)I" } : Jvm.MethodName)) ∈ GT := mTE (sE_5_8 (mc11 List.mem_cons_self)) rfl
theorem wt_1100 : (Jvm.Cond.selects "AsleepPassModel" ({ cls := "AsleepPassModel", name := "harm", desc := "(III)I" } : Jvm.MethodName) ({ cls := "AsleepPassModel", name := "harm", desc := "(III)I" } : Jvm.MethodName)) ∈ GT := mTE (sE_5_8 (mc12 List.mem_cons_self)) rfl
theorem wt_1101 : (Jvm.Cond.code ({ cls := "AsleepPassModel", name := "harm", desc := "(III)I" } : Jvm.MethodName) prog_13_method_33_code (4 : Nat) (Option.some Jvm.ClassFile.FieldType.int)) ∈ GT := mTE (sE_5_8 (mc13 List.mem_cons_self)) rfl
theorem wt_1102 : (Jvm.Cond.methodLink "AsleepPassModel" (183 : Nat) ({ cls := "AsleepPassModel", name := "canHarm", desc := "(III)Z" } : Jvm.MethodName)) ∈ GT := mTE (sE_5_8 (mc14 List.mem_cons_self)) rfl
theorem wt_1104 : (Jvm.Cond.instanceMethod ({ cls := "AsleepPassModel", name := "canHarm", desc := "(III)Z" } : Jvm.MethodName)) ∈ GT := mTE (sE_5_9 List.mem_cons_self) rfl
theorem wt_1105 : (Jvm.Cond.code ({ cls := "AsleepPassModel", name := "canHarm", desc := "(III)Z" } : Jvm.MethodName) prog_13_method_32_code (4 : Nat) (Option.some Jvm.ClassFile.FieldType.boolean)) ∈ GT := mTE (sE_5_9 (mc1 List.mem_cons_self)) rfl
theorem wt_1106 : (Jvm.Cond.methodLink "AsleepPassModel" (187 : Nat) ({ cls := "AsleepPassModel", name := "harmOf", desc := "(IIIZ)I" } : Jvm.MethodName)) ∈ GT := mTE (sE_5_9 (mc2 List.mem_cons_self)) rfl
theorem wt_1108 : (Jvm.Cond.instanceMethod ({ cls := "AsleepPassModel", name := "harmOf", desc := "(IIIZ)I" } : Jvm.MethodName)) ∈ GT := mTE (sE_5_9 (mc4 List.mem_cons_self)) rfl
theorem wt_1109 : (Jvm.Cond.code ({ cls := "AsleepPassModel", name := "harmOf", desc := "(IIIZ)I" } : Jvm.MethodName) prog_13_method_31_code (10 : Nat) (Option.some Jvm.ClassFile.FieldType.int)) ∈ GT := mTE (sE_5_9 (mc5 List.mem_cons_self)) rfl
theorem wt_1110 : (Jvm.Cond.methodLink "AsleepPassModel" (180 : Nat) ({ cls := "AsleepPassModel", name := "kindOf", desc := "(I)I" } : Jvm.MethodName)) ∈ GT := mTE (sE_5_9 (mc6 List.mem_cons_self)) rfl
theorem wt_1112 : (Jvm.Cond.instanceMethod ({ cls := "AsleepPassModel", name := "kindOf", desc := "(I)I" } : Jvm.MethodName)) ∈ GT := mTE (sE_5_9 (mc8 List.mem_cons_self)) rfl
theorem wt_1113 : (Jvm.Cond.code ({ cls := "AsleepPassModel", name := "kindOf", desc := "(I)I" } : Jvm.MethodName) prog_13_method_30_code (2 : Nat) (Option.some Jvm.ClassFile.FieldType.int)) ∈ GT := mTE (sE_5_9 (mc9 List.mem_cons_self)) rfl
theorem wt_1114 : (Jvm.Cond.methodLink "AsleepPassLaw" (80 : Nat) ({ cls := "AsleepPassModel", name := "wakes", desc := "(I)J" } : Jvm.MethodName)) ∈ GT := mTE (sE_5_9 (mc10 List.mem_cons_self)) rfl
theorem wt_1115 : (Jvm.Cond.instanceMethod ({ cls := "AsleepPassModel", name := "wakes", desc := "(I)J" } : Jvm.MethodName)) ∈ GT := mTE (sE_5_9 (mc11 List.mem_cons_self)) rfl
theorem wt_1116 : (Jvm.Cond.selects "AsleepPassModel" ({ cls := "AsleepPassModel", name := "wakes", desc := "(I)J" } : Jvm.MethodName) ({ cls := "AsleepPassModel", name := "wakes", desc := "(I)J" } : Jvm.MethodName)) ∈ GT := mTE (sE_5_9 (mc12 List.mem_cons_self)) rfl
theorem wt_1117 : (Jvm.Cond.code ({ cls := "AsleepPassModel", name := "wakes", desc := "(I)J" } : Jvm.MethodName) prog_13_method_39_code (2 : Nat) (Option.some Jvm.ClassFile.FieldType.long)) ∈ GT := mTE (sE_5_9 (mc13 List.mem_cons_self)) rfl
theorem wt_1118 : (Jvm.Cond.constantLong "AsleepPassModel" (200 : Nat) (-1 : Int64)) ∈ GT := mTE (sE_5_9 (mc14 List.mem_cons_self)) rfl
theorem wt_1119 : (Jvm.Cond.methodLink "AsleepPassModel" (202 : Nat) ({ cls := "AsleepPassModel", name := "layOdds", desc := "(III)V" } : Jvm.MethodName)) ∈ GT := mTE (sE_5_9 (mc15 List.mem_cons_self)) rfl
theorem wt_1121 : (Jvm.Cond.instanceMethod ({ cls := "AsleepPassModel", name := "layOdds", desc := "(III)V" } : Jvm.MethodName)) ∈ GT := mTE (sE_5_10 (mc1 List.mem_cons_self)) rfl
theorem wt_1122 : (Jvm.Cond.code ({ cls := "AsleepPassModel", name := "layOdds", desc := "(III)V" } : Jvm.MethodName) prog_13_method_37_code (8 : Nat) (Option.none : Option Jvm.ClassFile.FieldType)) ∈ GT := mTE (sE_5_10 (mc2 List.mem_cons_self)) rfl
theorem wt_1123 : (Jvm.Cond.methodLink "AsleepPassModel" (193 : Nat) ({ cls := "AsleepPassModel", name := "orderedHarm", desc := "(IZ)I" } : Jvm.MethodName)) ∈ GT := mTE (sE_5_10 (mc3 List.mem_cons_self)) rfl
theorem wt_1125 : (Jvm.Cond.instanceMethod ({ cls := "AsleepPassModel", name := "orderedHarm", desc := "(IZ)I" } : Jvm.MethodName)) ∈ GT := mTE (sE_5_10 (mc5 List.mem_cons_self)) rfl
theorem wt_1126 : (Jvm.Cond.code ({ cls := "AsleepPassModel", name := "orderedHarm", desc := "(IZ)I" } : Jvm.MethodName) prog_13_method_34_code (3 : Nat) (Option.some Jvm.ClassFile.FieldType.int)) ∈ GT := mTE (sE_5_10 (mc6 List.mem_cons_self)) rfl
theorem wt_1127 : (Jvm.Cond.constantLong "AsleepPassModel" (191 : Nat) (20 : Int64)) ∈ GT := mTE (sE_5_10 (mc7 List.mem_cons_self)) rfl
theorem wt_1128 : (Jvm.Cond.methodLink "AsleepPassModel" (197 : Nat) ({ cls := "AsleepPassModel", name := "deeper", desc := "(II)I" } : Jvm.MethodName)) ∈ GT := mTE (sE_5_10 (mc8 List.mem_cons_self)) rfl
theorem wt_1129 : (Jvm.Cond.static ({ cls := "AsleepPassModel", name := "deeper", desc := "(II)I" } : Jvm.MethodName)) ∈ GT := mTE (sE_5_10 (mc9 List.mem_cons_self)) rfl
theorem wt_1130 : (Jvm.Cond.code ({ cls := "AsleepPassModel", name := "deeper", desc := "(II)I" } : Jvm.MethodName) prog_13_method_36_code (2 : Nat) (Option.some Jvm.ClassFile.FieldType.int)) ∈ GT := mTE (sE_5_10 (mc10 List.mem_cons_self)) rfl
theorem wt_1131 : (Jvm.Cond.methodLink "AsleepPassModel" (206 : Nat) ({ cls := "AsleepPassModel", name := "power", desc := "(I)J" } : Jvm.MethodName)) ∈ GT := mTE (sE_5_10 (mc11 List.mem_cons_self)) rfl
theorem wt_1132 : (Jvm.Cond.static ({ cls := "AsleepPassModel", name := "power", desc := "(I)J" } : Jvm.MethodName)) ∈ GT := mTE (sE_5_10 (mc12 List.mem_cons_self)) rfl
theorem wt_1133 : (Jvm.Cond.code ({ cls := "AsleepPassModel", name := "power", desc := "(I)J" } : Jvm.MethodName) prog_13_method_35_code (4 : Nat) (Option.some Jvm.ClassFile.FieldType.long)) ∈ GT := mTE (sE_5_10 (mc13 List.mem_cons_self)) rfl
theorem wt_1134 : (Jvm.Cond.methodLink "AsleepPassModel" (210 : Nat) ({ cls := "AsleepPassModel", name := "lowest", desc := "(JJI)J" } : Jvm.MethodName)) ∈ GT := mTE (sE_5_10 (mc14 List.mem_cons_self)) rfl
theorem wt_1135 : (Jvm.Cond.static ({ cls := "AsleepPassModel", name := "lowest", desc := "(JJI)J" } : Jvm.MethodName)) ∈ GT := mTE (sE_5_10 (mc15 List.mem_cons_self)) rfl
theorem wt_1136 : (Jvm.Cond.code ({ cls := "AsleepPassModel", name := "lowest", desc := "(JJI)J" } : Jvm.MethodName) prog_13_method_38_code (11 : Nat) (Option.some Jvm.ClassFile.FieldType.long)) ∈ GT := mTE (sE_5_11 List.mem_cons_self) rfl
theorem wt_1137 : (Jvm.Cond.methodLink "AsleepPassLaw" (85 : Nat) ({ cls := "AsleepPassModel", name := "awake", desc := "(II)J" } : Jvm.MethodName)) ∈ GT := mTE (sE_5_11 (mc1 List.mem_cons_self)) rfl
theorem wt_1138 : (Jvm.Cond.instanceMethod ({ cls := "AsleepPassModel", name := "awake", desc := "(II)J" } : Jvm.MethodName)) ∈ GT := mTE (sE_5_11 (mc2 List.mem_cons_self)) rfl
theorem wt_1139 : (Jvm.Cond.selects "AsleepPassModel" ({ cls := "AsleepPassModel", name := "awake", desc := "(II)J" } : Jvm.MethodName) ({ cls := "AsleepPassModel", name := "awake", desc := "(II)J" } : Jvm.MethodName)) ∈ GT := mTE (sE_5_11 (mc3 List.mem_cons_self)) rfl
theorem wt_1140 : (Jvm.Cond.code ({ cls := "AsleepPassModel", name := "awake", desc := "(II)J" } : Jvm.MethodName) prog_13_method_40_code (3 : Nat) (Option.some Jvm.ClassFile.FieldType.long)) ∈ GT := mTE (sE_5_11 (mc4 List.mem_cons_self)) rfl
theorem wt_1141 : (Jvm.Cond.methodLink "AsleepPassModel" (214 : Nat) ({ cls := "AsleepPassModel", name := "depth", desc := "(III)J" } : Jvm.MethodName)) ∈ GT := mTE (sE_5_11 (mc5 List.mem_cons_self)) rfl
theorem wt_1142 : (Jvm.Cond.instanceMethod ({ cls := "AsleepPassModel", name := "depth", desc := "(III)J" } : Jvm.MethodName)) ∈ GT := mTE (sE_5_11 (mc6 List.mem_cons_self)) rfl
theorem wt_1143 : (Jvm.Cond.selects "AsleepPassModel" ({ cls := "AsleepPassModel", name := "depth", desc := "(III)J" } : Jvm.MethodName) ({ cls := "AsleepPassModel", name := "depth", desc := "(III)J" } : Jvm.MethodName)) ∈ GT := mTE (sE_5_11 (mc7 List.mem_cons_self)) rfl
theorem wt_1144 : (Jvm.Cond.code ({ cls := "AsleepPassModel", name := "depth", desc := "(III)J" } : Jvm.MethodName) prog_13_method_41_code (4 : Nat) (Option.some Jvm.ClassFile.FieldType.long)) ∈ GT := mTE (sE_5_11 (mc8 List.mem_cons_self)) rfl
theorem wt_1145 : (Jvm.Cond.methodLink "AsleepPassLaw" (90 : Nat) ({ cls := "AsleepPassModel", name := "depth", desc := "(III)J" } : Jvm.MethodName)) ∈ GT := mTE (sE_5_11 (mc9 List.mem_cons_self)) rfl
theorem wt_1146 : (Jvm.Cond.methodLink "AsleepPassLaw" (94 : Nat) ({ cls := "AsleepPassModel", name := "best", desc := "(I)J" } : Jvm.MethodName)) ∈ GT := mTE (sE_5_11 (mc10 List.mem_cons_self)) rfl
theorem wt_1147 : (Jvm.Cond.instanceMethod ({ cls := "AsleepPassModel", name := "best", desc := "(I)J" } : Jvm.MethodName)) ∈ GT := mTE (sE_5_11 (mc11 List.mem_cons_self)) rfl
theorem wt_1148 : (Jvm.Cond.selects "AsleepPassModel" ({ cls := "AsleepPassModel", name := "best", desc := "(I)J" } : Jvm.MethodName) ({ cls := "AsleepPassModel", name := "best", desc := "(I)J" } : Jvm.MethodName)) ∈ GT := mTE (sE_5_11 (mc12 List.mem_cons_self)) rfl
theorem wt_1149 : (Jvm.Cond.code ({ cls := "AsleepPassModel", name := "best", desc := "(I)J" } : Jvm.MethodName) prog_13_method_45_code (2 : Nat) (Option.some Jvm.ClassFile.FieldType.long)) ∈ GT := mTE (sE_5_11 (mc13 List.mem_cons_self)) rfl
theorem wt_1150 : (Jvm.Cond.methodLink "AsleepPassModel" (227 : Nat) ({ cls := "AsleepPassModel", name := "layBest", desc := "(I)V" } : Jvm.MethodName)) ∈ GT := mTE (sE_5_11 (mc14 List.mem_cons_self)) rfl
theorem wt_1152 : (Jvm.Cond.instanceMethod ({ cls := "AsleepPassModel", name := "layBest", desc := "(I)V" } : Jvm.MethodName)) ∈ GT := mTE (sE_5_12 List.mem_cons_self) rfl
theorem wt_1153 : (Jvm.Cond.code ({ cls := "AsleepPassModel", name := "layBest", desc := "(I)V" } : Jvm.MethodName) prog_13_method_44_code (8 : Nat) (Option.none : Option Jvm.ClassFile.FieldType)) ∈ GT := mTE (sE_5_12 (mc1 List.mem_cons_self)) rfl
theorem wt_1154 : (Jvm.Cond.constantLong "AsleepPassModel" (221 : Nat) (4000000000000000000 : Int64)) ∈ GT := mTE (sE_5_12 (mc2 List.mem_cons_self)) rfl
theorem wt_1155 : (Jvm.Cond.methodLink "AsleepPassModel" (223 : Nat) ({ cls := "AsleepPassModel", name := "byOne", desc := "(IIII)J" } : Jvm.MethodName)) ∈ GT := mTE (sE_5_12 (mc3 List.mem_cons_self)) rfl
theorem wt_1157 : (Jvm.Cond.instanceMethod ({ cls := "AsleepPassModel", name := "byOne", desc := "(IIII)J" } : Jvm.MethodName)) ∈ GT := mTE (sE_5_12 (mc5 List.mem_cons_self)) rfl
theorem wt_1158 : (Jvm.Cond.code ({ cls := "AsleepPassModel", name := "byOne", desc := "(IIII)J" } : Jvm.MethodName) prog_13_method_43_code (6 : Nat) (Option.some Jvm.ClassFile.FieldType.long)) ∈ GT := mTE (sE_5_12 (mc6 List.mem_cons_self)) rfl
theorem wt_1159 : (Jvm.Cond.methodLink "AsleepPassModel" (218 : Nat) ({ cls := "AsleepPassModel", name := "bestAt", desc := "(III)I" } : Jvm.MethodName)) ∈ GT := mTE (sE_5_12 (mc7 List.mem_cons_self)) rfl
theorem wt_1160 : (Jvm.Cond.static ({ cls := "AsleepPassModel", name := "bestAt", desc := "(III)I" } : Jvm.MethodName)) ∈ GT := mTE (sE_5_12 (mc8 List.mem_cons_self)) rfl
theorem wt_1161 : (Jvm.Cond.code ({ cls := "AsleepPassModel", name := "bestAt", desc := "(III)I" } : Jvm.MethodName) prog_13_method_42_code (3 : Nat) (Option.some Jvm.ClassFile.FieldType.int)) ∈ GT := mTE (sE_5_12 (mc9 List.mem_cons_self)) rfl
theorem wt_1162 : (Jvm.Cond.methodLink "AsleepPassLaw" (98 : Nat) ({ cls := "AsleepPassModel", name := "next", desc := "(III)I" } : Jvm.MethodName)) ∈ GT := mTE (sE_5_12 (mc10 List.mem_cons_self)) rfl
theorem wt_1163 : (Jvm.Cond.instanceMethod ({ cls := "AsleepPassModel", name := "next", desc := "(III)I" } : Jvm.MethodName)) ∈ GT := mTE (sE_5_12 (mc11 List.mem_cons_self)) rfl
theorem wt_1164 : (Jvm.Cond.selects "AsleepPassModel" ({ cls := "AsleepPassModel", name := "next", desc := "(III)I" } : Jvm.MethodName) ({ cls := "AsleepPassModel", name := "next", desc := "(III)I" } : Jvm.MethodName)) ∈ GT := mTE (sE_5_12 (mc12 List.mem_cons_self)) rfl
theorem wt_1165 : (Jvm.Cond.code ({ cls := "AsleepPassModel", name := "next", desc := "(III)I" } : Jvm.MethodName) prog_13_method_46_code (5 : Nat) (Option.some Jvm.ClassFile.FieldType.int)) ∈ GT := mTE (sE_5_12 (mc13 List.mem_cons_self)) rfl
theorem wt_1166 : (Jvm.Cond.methodLink "AsleepPassLaw" (102 : Nat) ({ cls := "AsleepPassModel", name := "without", desc := "(II)J" } : Jvm.MethodName)) ∈ GT := mTE (sE_5_12 (mc14 List.mem_cons_self)) rfl
theorem wt_1167 : (Jvm.Cond.instanceMethod ({ cls := "AsleepPassModel", name := "without", desc := "(II)J" } : Jvm.MethodName)) ∈ GT := mTE (sE_5_12 (mc15 List.mem_cons_self)) rfl
theorem wt_1168 : (Jvm.Cond.selects "AsleepPassModel" ({ cls := "AsleepPassModel", name := "without", desc := "(II)J" } : Jvm.MethodName) ({ cls := "AsleepPassModel", name := "without", desc := "(II)J" } : Jvm.MethodName)) ∈ GT := mTE (sE_5_13 List.mem_cons_self) rfl
theorem wt_1169 : (Jvm.Cond.code ({ cls := "AsleepPassModel", name := "without", desc := "(II)J" } : Jvm.MethodName) prog_13_method_47_code (3 : Nat) (Option.some Jvm.ClassFile.FieldType.long)) ∈ GT := mTE (sE_5_13 (mc1 List.mem_cons_self)) rfl
theorem wt_1170 : (Jvm.Cond.constantLong "AsleepPassModel" (230 : Nat) (-2 : Int64)) ∈ GT := mTE (sE_5_13 (mc2 List.mem_cons_self)) rfl
theorem wt_1171 : (Jvm.Cond.methodLink "AsleepPassLaw" (106 : Nat) ({ cls := "AsleepPassModel", name := "quiet", desc := "(II)J" } : Jvm.MethodName)) ∈ GT := mTE (sE_5_13 (mc3 List.mem_cons_self)) rfl
theorem wt_1172 : (Jvm.Cond.instanceMethod ({ cls := "AsleepPassModel", name := "quiet", desc := "(II)J" } : Jvm.MethodName)) ∈ GT := mTE (sE_5_13 (mc4 List.mem_cons_self)) rfl
theorem wt_1173 : (Jvm.Cond.selects "AsleepPassModel" ({ cls := "AsleepPassModel", name := "quiet", desc := "(II)J" } : Jvm.MethodName) ({ cls := "AsleepPassModel", name := "quiet", desc := "(II)J" } : Jvm.MethodName)) ∈ GT := mTE (sE_5_13 (mc5 List.mem_cons_self)) rfl
theorem wt_1174 : (Jvm.Cond.code ({ cls := "AsleepPassModel", name := "quiet", desc := "(II)J" } : Jvm.MethodName) prog_13_method_49_code (7 : Nat) (Option.some Jvm.ClassFile.FieldType.long)) ∈ GT := mTE (sE_5_13 (mc6 List.mem_cons_self)) rfl
theorem wt_1175 : (Jvm.Cond.constantLong "AsleepPassModel" (232 : Nat) (4 : Int64)) ∈ GT := mTE (sE_5_13 (mc7 List.mem_cons_self)) rfl
theorem wt_1176 : (Jvm.Cond.methodLink "AsleepPassModel" (234 : Nat) ({ cls := "AsleepPassModel", name := "bitsOf", desc := "(I)I" } : Jvm.MethodName)) ∈ GT := mTE (sE_5_13 (mc8 List.mem_cons_self)) rfl
theorem wt_1177 : (Jvm.Cond.static ({ cls := "AsleepPassModel", name := "bitsOf", desc := "(I)I" } : Jvm.MethodName)) ∈ GT := mTE (sE_5_13 (mc9 List.mem_cons_self)) rfl
theorem wt_1178 : (Jvm.Cond.code ({ cls := "AsleepPassModel", name := "bitsOf", desc := "(I)I" } : Jvm.MethodName) prog_13_method_48_code (3 : Nat) (Option.some Jvm.ClassFile.FieldType.int)) ∈ GT := mTE (sE_5_13 (mc10 List.mem_cons_self)) rfl
theorem wt_1179 : (Jvm.Cond.methodLink "AsleepPassLaw" (110 : Nat) ({ cls := "AsleepPassModel", name := "drop", desc := "(I)J" } : Jvm.MethodName)) ∈ GT := mTE (sE_5_13 (mc11 List.mem_cons_self)) rfl
theorem wt_1180 : (Jvm.Cond.instanceMethod ({ cls := "AsleepPassModel", name := "drop", desc := "(I)J" } : Jvm.MethodName)) ∈ GT := mTE (sE_5_13 (mc12 List.mem_cons_self)) rfl
theorem wt_1181 : (Jvm.Cond.selects "AsleepPassModel" ({ cls := "AsleepPassModel", name := "drop", desc := "(I)J" } : Jvm.MethodName) ({ cls := "AsleepPassModel", name := "drop", desc := "(I)J" } : Jvm.MethodName)) ∈ GT := mTE (sE_5_13 (mc13 List.mem_cons_self)) rfl
theorem wt_1182 : (Jvm.Cond.code ({ cls := "AsleepPassModel", name := "drop", desc := "(I)J" } : Jvm.MethodName) prog_13_method_50_code (6 : Nat) (Option.some Jvm.ClassFile.FieldType.long)) ∈ GT := mTE (sE_5_13 (mc14 List.mem_cons_self)) rfl
theorem wt_1183 : (Jvm.Cond.methodLink "AsleepPassLaw" (114 : Nat) ({ cls := "AsleepPassModel", name := "swap", desc := "(I)J" } : Jvm.MethodName)) ∈ GT := mTE (sE_5_13 (mc15 List.mem_cons_self)) rfl
theorem wt_1184 : (Jvm.Cond.instanceMethod ({ cls := "AsleepPassModel", name := "swap", desc := "(I)J" } : Jvm.MethodName)) ∈ GT := mTE (sE_5_14 List.mem_cons_self) rfl
theorem wt_1185 : (Jvm.Cond.selects "AsleepPassModel" ({ cls := "AsleepPassModel", name := "swap", desc := "(I)J" } : Jvm.MethodName) ({ cls := "AsleepPassModel", name := "swap", desc := "(I)J" } : Jvm.MethodName)) ∈ GT := mTE (sE_5_14 (mc1 List.mem_cons_self)) rfl
theorem wt_1186 : (Jvm.Cond.code ({ cls := "AsleepPassModel", name := "swap", desc := "(I)J" } : Jvm.MethodName) prog_13_method_52_code (7 : Nat) (Option.some Jvm.ClassFile.FieldType.long)) ∈ GT := mTE (sE_5_14 (mc2 List.mem_cons_self)) rfl
theorem wt_1187 : (Jvm.Cond.methodLink "AsleepPassModel" (237 : Nat) ({ cls := "AsleepPassModel", name := "changes", desc := "(II)V" } : Jvm.MethodName)) ∈ GT := mTE (sE_5_14 (mc3 List.mem_cons_self)) rfl
theorem wt_1189 : (Jvm.Cond.instanceMethod ({ cls := "AsleepPassModel", name := "changes", desc := "(II)V" } : Jvm.MethodName)) ∈ GT := mTE (sE_5_14 (mc5 List.mem_cons_self)) rfl
theorem wt_1190 : (Jvm.Cond.code ({ cls := "AsleepPassModel", name := "changes", desc := "(II)V" } : Jvm.MethodName) prog_13_method_51_code (4 : Nat) (Option.none : Option Jvm.ClassFile.FieldType)) ∈ GT := mTE (sE_5_14 (mc6 List.mem_cons_self)) rfl
theorem wt_1191 : (Jvm.Cond.methodLink "AsleepPassLaw" (118 : Nat) ({ cls := "AsleepPassModel", name := "carry", desc := "(II)I" } : Jvm.MethodName)) ∈ GT := mTE (sE_5_14 (mc7 List.mem_cons_self)) rfl
theorem wt_1192 : (Jvm.Cond.instanceMethod ({ cls := "AsleepPassModel", name := "carry", desc := "(II)I" } : Jvm.MethodName)) ∈ GT := mTE (sE_5_14 (mc8 List.mem_cons_self)) rfl
theorem wt_1193 : (Jvm.Cond.selects "AsleepPassModel" ({ cls := "AsleepPassModel", name := "carry", desc := "(II)I" } : Jvm.MethodName) ({ cls := "AsleepPassModel", name := "carry", desc := "(II)I" } : Jvm.MethodName)) ∈ GT := mTE (sE_5_14 (mc9 List.mem_cons_self)) rfl
theorem wt_1194 : (Jvm.Cond.code ({ cls := "AsleepPassModel", name := "carry", desc := "(II)I" } : Jvm.MethodName) prog_13_method_53_code (9 : Nat) (Option.some Jvm.ClassFile.FieldType.int)) ∈ GT := mTE (sE_5_14 (mc10 List.mem_cons_self)) rfl
theorem wt_1195 : (Jvm.Cond.constant "AsleepPassModel" (241 : Nat) (1103515245 : Int32)) ∈ GT := mTE (sE_5_14 (mc11 List.mem_cons_self)) rfl
theorem wt_1196 : (Jvm.Cond.methodLink "AsleepPassLaw" (123 : Nat) ({ cls := "AsleepPassModel", name := "learn", desc := "(IIII)I" } : Jvm.MethodName)) ∈ GT := mTE (sE_5_14 (mc12 List.mem_cons_self)) rfl
theorem wt_1197 : (Jvm.Cond.instanceMethod ({ cls := "AsleepPassModel", name := "learn", desc := "(IIII)I" } : Jvm.MethodName)) ∈ GT := mTE (sE_5_14 (mc13 List.mem_cons_self)) rfl
theorem wt_1198 : (Jvm.Cond.selects "AsleepPassModel" ({ cls := "AsleepPassModel", name := "learn", desc := "(IIII)I" } : Jvm.MethodName) ({ cls := "AsleepPassModel", name := "learn", desc := "(IIII)I" } : Jvm.MethodName)) ∈ GT := mTE (sE_5_14 (mc14 List.mem_cons_self)) rfl
theorem wt_1199 : (Jvm.Cond.code ({ cls := "AsleepPassModel", name := "learn", desc := "(IIII)I" } : Jvm.MethodName) prog_13_method_54_code (6 : Nat) (Option.some Jvm.ClassFile.FieldType.int)) ∈ GT := mTE (sE_5_14 (mc15 List.mem_cons_self)) rfl
theorem wt_1200 : (Jvm.Cond.methodLink "AsleepPassLaw" (127 : Nat) ({ cls := "AsleepPassModel", name := "forget", desc := "(I)I" } : Jvm.MethodName)) ∈ GT := mTE (sE_6_0 List.mem_cons_self) rfl
theorem wt_1201 : (Jvm.Cond.instanceMethod ({ cls := "AsleepPassModel", name := "forget", desc := "(I)I" } : Jvm.MethodName)) ∈ GT := mTE (sE_6_0 (mc1 List.mem_cons_self)) rfl
theorem wt_1202 : (Jvm.Cond.selects "AsleepPassModel" ({ cls := "AsleepPassModel", name := "forget", desc := "(I)I" } : Jvm.MethodName) ({ cls := "AsleepPassModel", name := "forget", desc := "(I)I" } : Jvm.MethodName)) ∈ GT := mTE (sE_6_0 (mc2 List.mem_cons_self)) rfl
theorem wt_1203 : (Jvm.Cond.code ({ cls := "AsleepPassModel", name := "forget", desc := "(I)I" } : Jvm.MethodName) prog_13_method_55_code (3 : Nat) (Option.some Jvm.ClassFile.FieldType.int)) ∈ GT := mTE (sE_6_0 (mc3 List.mem_cons_self)) rfl
theorem wt_1204 : (Jvm.Cond.methodLink "AsleepPassLaw" (131 : Nat) ({ cls := "AsleepPassModel", name := "steps", desc := "(II)I" } : Jvm.MethodName)) ∈ GT := mTE (sE_6_0 (mc4 List.mem_cons_self)) rfl
theorem wt_1205 : (Jvm.Cond.instanceMethod ({ cls := "AsleepPassModel", name := "steps", desc := "(II)I" } : Jvm.MethodName)) ∈ GT := mTE (sE_6_0 (mc5 List.mem_cons_self)) rfl
theorem wt_1206 : (Jvm.Cond.selects "AsleepPassModel" ({ cls := "AsleepPassModel", name := "steps", desc := "(II)I" } : Jvm.MethodName) ({ cls := "AsleepPassModel", name := "steps", desc := "(II)I" } : Jvm.MethodName)) ∈ GT := mTE (sE_6_0 (mc6 List.mem_cons_self)) rfl
theorem wt_1207 : (Jvm.Cond.code ({ cls := "AsleepPassModel", name := "steps", desc := "(II)I" } : Jvm.MethodName) prog_13_method_56_code (11 : Nat) (Option.some Jvm.ClassFile.FieldType.int)) ∈ GT := mTE (sE_6_0 (mc7 List.mem_cons_self)) rfl
theorem wt_1208 : (Jvm.Cond.methodLink "AsleepPassLaw" (135 : Nat) ({ cls := "AsleepPassModel", name := "mark", desc := "(II)I" } : Jvm.MethodName)) ∈ GT := mTE (sE_6_0 (mc8 List.mem_cons_self)) rfl
theorem wt_1209 : (Jvm.Cond.instanceMethod ({ cls := "AsleepPassModel", name := "mark", desc := "(II)I" } : Jvm.MethodName)) ∈ GT := mTE (sE_6_0 (mc9 List.mem_cons_self)) rfl
theorem wt_1210 : (Jvm.Cond.selects "AsleepPassModel" ({ cls := "AsleepPassModel", name := "mark", desc := "(II)I" } : Jvm.MethodName) ({ cls := "AsleepPassModel", name := "mark", desc := "(II)I" } : Jvm.MethodName)) ∈ GT := mTE (sE_6_0 (mc10 List.mem_cons_self)) rfl
theorem wt_1211 : (Jvm.Cond.code ({ cls := "AsleepPassModel", name := "mark", desc := "(II)I" } : Jvm.MethodName) prog_13_method_57_code (3 : Nat) (Option.some Jvm.ClassFile.FieldType.int)) ∈ GT := mTE (sE_6_0 (mc11 List.mem_cons_self)) rfl
theorem wt_1212 : (Jvm.Cond.methodLink "AsleepPassLaw" (139 : Nat) ({ cls := "AsleepPassModel", name := "wipe", desc := "(I)I" } : Jvm.MethodName)) ∈ GT := mTE (sE_6_0 (mc12 List.mem_cons_self)) rfl
theorem wt_1213 : (Jvm.Cond.instanceMethod ({ cls := "AsleepPassModel", name := "wipe", desc := "(I)I" } : Jvm.MethodName)) ∈ GT := mTE (sE_6_0 (mc13 List.mem_cons_self)) rfl
theorem wt_1214 : (Jvm.Cond.selects "AsleepPassModel" ({ cls := "AsleepPassModel", name := "wipe", desc := "(I)I" } : Jvm.MethodName) ({ cls := "AsleepPassModel", name := "wipe", desc := "(I)I" } : Jvm.MethodName)) ∈ GT := mTE (sE_6_0 (mc14 List.mem_cons_self)) rfl
theorem wt_1215 : (Jvm.Cond.code ({ cls := "AsleepPassModel", name := "wipe", desc := "(I)I" } : Jvm.MethodName) prog_13_method_58_code (3 : Nat) (Option.some Jvm.ClassFile.FieldType.int)) ∈ GT := mTE (sE_6_0 (mc15 List.mem_cons_self)) rfl
theorem wt_1216 : (Jvm.Cond.methodLink "AsleepPassLaw" (143 : Nat) ({ cls := "AsleepPassModel", name := "paths", desc := "()I" } : Jvm.MethodName)) ∈ GT := mTE (sE_6_1 List.mem_cons_self) rfl
theorem wt_1217 : (Jvm.Cond.instanceMethod ({ cls := "AsleepPassModel", name := "paths", desc := "()I" } : Jvm.MethodName)) ∈ GT := mTE (sE_6_1 (mc1 List.mem_cons_self)) rfl
theorem wt_1218 : (Jvm.Cond.selects "AsleepPassModel" ({ cls := "AsleepPassModel", name := "paths", desc := "()I" } : Jvm.MethodName) ({ cls := "AsleepPassModel", name := "paths", desc := "()I" } : Jvm.MethodName)) ∈ GT := mTE (sE_6_1 (mc2 List.mem_cons_self)) rfl
theorem wt_1219 : (Jvm.Cond.code ({ cls := "AsleepPassModel", name := "paths", desc := "()I" } : Jvm.MethodName) prog_13_method_63_code (1 : Nat) (Option.some Jvm.ClassFile.FieldType.int)) ∈ GT := mTE (sE_6_1 (mc3 List.mem_cons_self)) rfl
theorem wt_1220 : (Jvm.Cond.methodLink "AsleepPassModel" (253 : Nat) ({ cls := "AsleepPassModel", name := "layPaths", desc := "()V" } : Jvm.MethodName)) ∈ GT := mTE (sE_6_1 (mc4 List.mem_cons_self)) rfl
theorem wt_1222 : (Jvm.Cond.instanceMethod ({ cls := "AsleepPassModel", name := "layPaths", desc := "()V" } : Jvm.MethodName)) ∈ GT := mTE (sE_6_1 (mc6 List.mem_cons_self)) rfl
theorem wt_1223 : (Jvm.Cond.code ({ cls := "AsleepPassModel", name := "layPaths", desc := "()V" } : Jvm.MethodName) prog_13_method_61_code (6 : Nat) (Option.none : Option Jvm.ClassFile.FieldType)) ∈ GT := mTE (sE_6_1 (mc7 List.mem_cons_self)) rfl
theorem wt_1224 : (Jvm.Cond.methodLink "AsleepPassModel" (246 : Nat) ({ cls := "AsleepPassModel", name := "depthThen", desc := "(IIZ)I" } : Jvm.MethodName)) ∈ GT := mTE (sE_6_1 (mc8 List.mem_cons_self)) rfl
theorem wt_1226 : (Jvm.Cond.instanceMethod ({ cls := "AsleepPassModel", name := "depthThen", desc := "(IIZ)I" } : Jvm.MethodName)) ∈ GT := mTE (sE_6_1 (mc10 List.mem_cons_self)) rfl
theorem wt_1227 : (Jvm.Cond.code ({ cls := "AsleepPassModel", name := "depthThen", desc := "(IIZ)I" } : Jvm.MethodName) prog_13_method_60_code (6 : Nat) (Option.some Jvm.ClassFile.FieldType.int)) ∈ GT := mTE (sE_6_1 (mc11 List.mem_cons_self)) rfl
theorem wt_1228 : (Jvm.Cond.methodLink "AsleepPassModel" (242 : Nat) ({ cls := "AsleepPassModel", name := "isMarked", desc := "(II)Z" } : Jvm.MethodName)) ∈ GT := mTE (sE_6_1 (mc12 List.mem_cons_self)) rfl
theorem wt_1230 : (Jvm.Cond.instanceMethod ({ cls := "AsleepPassModel", name := "isMarked", desc := "(II)Z" } : Jvm.MethodName)) ∈ GT := mTE (sE_6_1 (mc14 List.mem_cons_self)) rfl
theorem wt_1231 : (Jvm.Cond.code ({ cls := "AsleepPassModel", name := "isMarked", desc := "(II)Z" } : Jvm.MethodName) prog_13_method_59_code (5 : Nat) (Option.some Jvm.ClassFile.FieldType.boolean)) ∈ GT := mTE (sE_6_1 (mc15 List.mem_cons_self)) rfl
theorem wt_1232 : (Jvm.Cond.methodLink "AsleepPassModel" (250 : Nat) ({ cls := "AsleepPassModel", name := "onward", desc := "(IIZ)I" } : Jvm.MethodName)) ∈ GT := mTE (sE_6_2 List.mem_cons_self) rfl
theorem wt_1234 : (Jvm.Cond.instanceMethod ({ cls := "AsleepPassModel", name := "onward", desc := "(IIZ)I" } : Jvm.MethodName)) ∈ GT := mTE (sE_6_2 (mc2 List.mem_cons_self)) rfl
theorem wt_1235 : (Jvm.Cond.code ({ cls := "AsleepPassModel", name := "onward", desc := "(IIZ)I" } : Jvm.MethodName) prog_13_method_62_code (5 : Nat) (Option.some Jvm.ClassFile.FieldType.int)) ∈ GT := mTE (sE_6_2 (mc3 List.mem_cons_self)) rfl
theorem wt_1236 : (Jvm.Cond.methodLink "AsleepPassLaw" (147 : Nat) ({ cls := "AsleepPassModel", name := "eye", desc := "(I)I" } : Jvm.MethodName)) ∈ GT := mTE (sE_6_2 (mc4 List.mem_cons_self)) rfl
theorem wt_1237 : (Jvm.Cond.instanceMethod ({ cls := "AsleepPassModel", name := "eye", desc := "(I)I" } : Jvm.MethodName)) ∈ GT := mTE (sE_6_2 (mc5 List.mem_cons_self)) rfl
theorem wt_1238 : (Jvm.Cond.selects "AsleepPassModel" ({ cls := "AsleepPassModel", name := "eye", desc := "(I)I" } : Jvm.MethodName) ({ cls := "AsleepPassModel", name := "eye", desc := "(I)I" } : Jvm.MethodName)) ∈ GT := mTE (sE_6_2 (mc6 List.mem_cons_self)) rfl
theorem wt_1239 : (Jvm.Cond.code ({ cls := "AsleepPassModel", name := "eye", desc := "(I)I" } : Jvm.MethodName) prog_13_method_64_code (4 : Nat) (Option.some Jvm.ClassFile.FieldType.int)) ∈ GT := mTE (sE_6_2 (mc7 List.mem_cons_self)) rfl
theorem wt_1240 : (Jvm.Cond.methodLink "AsleepPassLaw" (151 : Nat) ({ cls := "AsleepPassModel", name := "sure", desc := "(I)I" } : Jvm.MethodName)) ∈ GT := mTE (sE_6_2 (mc8 List.mem_cons_self)) rfl
theorem wt_1241 : (Jvm.Cond.instanceMethod ({ cls := "AsleepPassModel", name := "sure", desc := "(I)I" } : Jvm.MethodName)) ∈ GT := mTE (sE_6_2 (mc9 List.mem_cons_self)) rfl
theorem wt_1242 : (Jvm.Cond.selects "AsleepPassModel" ({ cls := "AsleepPassModel", name := "sure", desc := "(I)I" } : Jvm.MethodName) ({ cls := "AsleepPassModel", name := "sure", desc := "(I)I" } : Jvm.MethodName)) ∈ GT := mTE (sE_6_2 (mc10 List.mem_cons_self)) rfl
theorem wt_1243 : (Jvm.Cond.code ({ cls := "AsleepPassModel", name := "sure", desc := "(I)I" } : Jvm.MethodName) prog_13_method_65_code (7 : Nat) (Option.some Jvm.ClassFile.FieldType.int)) ∈ GT := mTE (sE_6_2 (mc11 List.mem_cons_self)) rfl
theorem wt_1244 : (Jvm.Cond.methodLink "AsleepPassLaw" (155 : Nat) ({ cls := "AsleepPassModel", name := "keep", desc := "(I)I" } : Jvm.MethodName)) ∈ GT := mTE (sE_6_2 (mc12 List.mem_cons_self)) rfl
theorem wt_1245 : (Jvm.Cond.instanceMethod ({ cls := "AsleepPassModel", name := "keep", desc := "(I)I" } : Jvm.MethodName)) ∈ GT := mTE (sE_6_2 (mc13 List.mem_cons_self)) rfl
theorem wt_1246 : (Jvm.Cond.selects "AsleepPassModel" ({ cls := "AsleepPassModel", name := "keep", desc := "(I)I" } : Jvm.MethodName) ({ cls := "AsleepPassModel", name := "keep", desc := "(I)I" } : Jvm.MethodName)) ∈ GT := mTE (sE_6_2 (mc14 List.mem_cons_self)) rfl
theorem wt_1247 : (Jvm.Cond.code ({ cls := "AsleepPassModel", name := "keep", desc := "(I)I" } : Jvm.MethodName) prog_13_method_67_code (3 : Nat) (Option.some Jvm.ClassFile.FieldType.int)) ∈ GT := mTE (sE_6_2 (mc15 List.mem_cons_self)) rfl
theorem wt_1248 : (Jvm.Cond.methodLink "AsleepPassModel" (256 : Nat) ({ cls := "AsleepPassModel", name := "copies", desc := "(II)V" } : Jvm.MethodName)) ∈ GT := mTE (sE_6_3 List.mem_cons_self) rfl
theorem wt_1250 : (Jvm.Cond.instanceMethod ({ cls := "AsleepPassModel", name := "copies", desc := "(II)V" } : Jvm.MethodName)) ∈ GT := mTE (sE_6_3 (mc2 List.mem_cons_self)) rfl
theorem wt_1251 : (Jvm.Cond.code ({ cls := "AsleepPassModel", name := "copies", desc := "(II)V" } : Jvm.MethodName) prog_13_method_66_code (4 : Nat) (Option.none : Option Jvm.ClassFile.FieldType)) ∈ GT := mTE (sE_6_3 (mc3 List.mem_cons_self)) rfl
theorem wt_1252 : (Jvm.Cond.methodLink "AsleepPassLaw" (159 : Nat) ({ cls := "AsleepPassModel", name := "back", desc := "(I)I" } : Jvm.MethodName)) ∈ GT := mTE (sE_6_3 (mc4 List.mem_cons_self)) rfl
theorem wt_1253 : (Jvm.Cond.instanceMethod ({ cls := "AsleepPassModel", name := "back", desc := "(I)I" } : Jvm.MethodName)) ∈ GT := mTE (sE_6_3 (mc5 List.mem_cons_self)) rfl
theorem wt_1254 : (Jvm.Cond.selects "AsleepPassModel" ({ cls := "AsleepPassModel", name := "back", desc := "(I)I" } : Jvm.MethodName) ({ cls := "AsleepPassModel", name := "back", desc := "(I)I" } : Jvm.MethodName)) ∈ GT := mTE (sE_6_3 (mc6 List.mem_cons_self)) rfl
theorem wt_1255 : (Jvm.Cond.code ({ cls := "AsleepPassModel", name := "back", desc := "(I)I" } : Jvm.MethodName) prog_13_method_68_code (2 : Nat) (Option.some Jvm.ClassFile.FieldType.int)) ∈ GT := mTE (sE_6_3 (mc7 List.mem_cons_self)) rfl
theorem wt_1256 : (Jvm.Cond.methodLink "AsleepPassLaw" (163 : Nat) ({ cls := "AsleepPassModel", name := "sheet", desc := "(III)I" } : Jvm.MethodName)) ∈ GT := mTE (sE_6_3 (mc8 List.mem_cons_self)) rfl
theorem wt_1257 : (Jvm.Cond.instanceMethod ({ cls := "AsleepPassModel", name := "sheet", desc := "(III)I" } : Jvm.MethodName)) ∈ GT := mTE (sE_6_3 (mc9 List.mem_cons_self)) rfl
theorem wt_1258 : (Jvm.Cond.selects "AsleepPassModel" ({ cls := "AsleepPassModel", name := "sheet", desc := "(III)I" } : Jvm.MethodName) ({ cls := "AsleepPassModel", name := "sheet", desc := "(III)I" } : Jvm.MethodName)) ∈ GT := mTE (sE_6_3 (mc10 List.mem_cons_self)) rfl
theorem wt_1259 : (Jvm.Cond.code ({ cls := "AsleepPassModel", name := "sheet", desc := "(III)I" } : Jvm.MethodName) prog_13_method_69_code (5 : Nat) (Option.some Jvm.ClassFile.FieldType.int)) ∈ GT := mTE (sE_6_3 (mc11 List.mem_cons_self)) rfl
theorem wt_1260 : (Jvm.Cond.methodLink "AsleepPassLaw" (167 : Nat) ({ cls := "AsleepPassModel", name := "lay", desc := "(III)I" } : Jvm.MethodName)) ∈ GT := mTE (sE_6_3 (mc12 List.mem_cons_self)) rfl
theorem wt_1261 : (Jvm.Cond.instanceMethod ({ cls := "AsleepPassModel", name := "lay", desc := "(III)I" } : Jvm.MethodName)) ∈ GT := mTE (sE_6_3 (mc13 List.mem_cons_self)) rfl
theorem wt_1262 : (Jvm.Cond.selects "AsleepPassModel" ({ cls := "AsleepPassModel", name := "lay", desc := "(III)I" } : Jvm.MethodName) ({ cls := "AsleepPassModel", name := "lay", desc := "(III)I" } : Jvm.MethodName)) ∈ GT := mTE (sE_6_3 (mc14 List.mem_cons_self)) rfl
theorem wt_1263 : (Jvm.Cond.code ({ cls := "AsleepPassModel", name := "lay", desc := "(III)I" } : Jvm.MethodName) prog_13_method_70_code (4 : Nat) (Option.some Jvm.ClassFile.FieldType.int)) ∈ GT := mTE (sE_6_3 (mc15 List.mem_cons_self)) rfl
theorem wt_1264 : (Jvm.Cond.methodLink "AsleepPassLaw" (171 : Nat) ({ cls := "AsleepPassModel", name := "read", desc := "(IIII)I" } : Jvm.MethodName)) ∈ GT := mTE (sE_6_4 List.mem_cons_self) rfl
theorem wt_1265 : (Jvm.Cond.instanceMethod ({ cls := "AsleepPassModel", name := "read", desc := "(IIII)I" } : Jvm.MethodName)) ∈ GT := mTE (sE_6_4 (mc1 List.mem_cons_self)) rfl
theorem wt_1266 : (Jvm.Cond.selects "AsleepPassModel" ({ cls := "AsleepPassModel", name := "read", desc := "(IIII)I" } : Jvm.MethodName) ({ cls := "AsleepPassModel", name := "read", desc := "(IIII)I" } : Jvm.MethodName)) ∈ GT := mTE (sE_6_4 (mc2 List.mem_cons_self)) rfl
theorem wt_1267 : (Jvm.Cond.code ({ cls := "AsleepPassModel", name := "read", desc := "(IIII)I" } : Jvm.MethodName) prog_13_method_71_code (9 : Nat) (Option.some Jvm.ClassFile.FieldType.int)) ∈ GT := mTE (sE_6_4 (mc3 List.mem_cons_self)) rfl
theorem wt_1268 : (Jvm.Cond.methodLink "AsleepPassLaw" (175 : Nat) ({ cls := "AsleepPassModel", name := "torn", desc := "()I" } : Jvm.MethodName)) ∈ GT := mTE (sE_6_4 (mc4 List.mem_cons_self)) rfl
theorem wt_1269 : (Jvm.Cond.instanceMethod ({ cls := "AsleepPassModel", name := "torn", desc := "()I" } : Jvm.MethodName)) ∈ GT := mTE (sE_6_4 (mc5 List.mem_cons_self)) rfl
theorem wt_1270 : (Jvm.Cond.selects "AsleepPassModel" ({ cls := "AsleepPassModel", name := "torn", desc := "()I" } : Jvm.MethodName) ({ cls := "AsleepPassModel", name := "torn", desc := "()I" } : Jvm.MethodName)) ∈ GT := mTE (sE_6_4 (mc6 List.mem_cons_self)) rfl
theorem wt_1271 : (Jvm.Cond.code ({ cls := "AsleepPassModel", name := "torn", desc := "()I" } : Jvm.MethodName) prog_13_method_72_code (1 : Nat) (Option.some Jvm.ClassFile.FieldType.int)) ∈ GT := mTE (sE_6_4 (mc7 List.mem_cons_self)) rfl
theorem wt_1272 : (Jvm.Cond.methodLink "AsleepPassLaw" (179 : Nat) ({ cls := "AsleepPassModel", name := "count", desc := "(I)I" } : Jvm.MethodName)) ∈ GT := mTE (sE_6_4 (mc8 List.mem_cons_self)) rfl
theorem wt_1273 : (Jvm.Cond.instanceMethod ({ cls := "AsleepPassModel", name := "count", desc := "(I)I" } : Jvm.MethodName)) ∈ GT := mTE (sE_6_4 (mc9 List.mem_cons_self)) rfl
theorem wt_1274 : (Jvm.Cond.selects "AsleepPassModel" ({ cls := "AsleepPassModel", name := "count", desc := "(I)I" } : Jvm.MethodName) ({ cls := "AsleepPassModel", name := "count", desc := "(I)I" } : Jvm.MethodName)) ∈ GT := mTE (sE_6_4 (mc10 List.mem_cons_self)) rfl
theorem wt_1275 : (Jvm.Cond.code ({ cls := "AsleepPassModel", name := "count", desc := "(I)I" } : Jvm.MethodName) prog_13_method_73_code (4 : Nat) (Option.some Jvm.ClassFile.FieldType.int)) ∈ GT := mTE (sE_6_4 (mc11 List.mem_cons_self)) rfl
theorem wt_1276 : (Jvm.Cond.constantLong "AsleepPassLaw" (13 : Nat) (4294967295 : Int64)) ∈ GT := mTE (sE_6_4 (mc12 List.mem_cons_self)) rfl
theorem wt_1277 : (Jvm.Cond.fieldLink "java/lang/String" (9 : Nat) "java/lang/String" "value" "[B") ∈ GT := mTE (sE_6_4 (mc13 List.mem_cons_self)) rfl
theorem wt_1278 : (Jvm.Cond.fieldLink "java/lang/String" (15 : Nat) "java/lang/String" "coder" "B") ∈ GT := mTE (sE_6_4 (mc14 List.mem_cons_self)) rfl
theorem ws_0 : Cond.selects "AsleepPass$Tape" ⟨"AsleepPass$Tape", "addBytes", "(J)Z"⟩ ⟨"AsleepPass$Tape", "addBytes", "(J)Z"⟩ ∈ GT := mS (q := (⟨"AsleepPass$Tape", "addBytes", "(J)Z"⟩, 2)) 0 (by decide +kernel)
theorem ws_1 : Cond.selects "AsleepPass$Reader" ⟨"AsleepPass$Reader", "readAll", "()V"⟩ ⟨"AsleepPass$Reader", "readAll", "()V"⟩ ∈ GT := mS (q := (⟨"AsleepPass$Reader", "readAll", "()V"⟩, 12)) 1 (by decide +kernel)
theorem ws_2 : Cond.selects "AsleepPass$Reader" ⟨"AsleepPass$Reader", "begin", "()V"⟩ ⟨"AsleepPass$Reader", "begin", "()V"⟩ ∈ GT := mS (q := (⟨"AsleepPass$Reader", "begin", "()V"⟩, 12)) 2 (by decide +kernel)
theorem ws_3 : Cond.selects "AsleepPass$Way" ⟨"AsleepPass$Way", "clear", "()V"⟩ ⟨"AsleepPass$Way", "clear", "()V"⟩ ∈ GT := mS (q := (⟨"AsleepPass$Way", "clear", "()V"⟩, 9)) 3 (by decide +kernel)
theorem ws_4 : Cond.selects "AsleepPass$Reader" ⟨"AsleepPass$Reader", "nextToken", "()Z"⟩ ⟨"AsleepPass$Reader", "nextToken", "()Z"⟩ ∈ GT := mS (q := (⟨"AsleepPass$Reader", "nextToken", "()Z"⟩, 12)) 4 (by decide +kernel)
theorem ws_5 : Cond.selects "AsleepPass$Tape" ⟨"AsleepPass$Tape", "pastAll", "(ICC)I"⟩ ⟨"AsleepPass$Tape", "pastAll", "(ICC)I"⟩ ∈ GT := mS (q := (⟨"AsleepPass$Tape", "pastAll", "(ICC)I"⟩, 2)) 5 (by decide +kernel)
theorem ws_6 : Cond.selects "AsleepPass$Tape" ⟨"AsleepPass$Tape", "byteAt", "(I)I"⟩ ⟨"AsleepPass$Tape", "byteAt", "(I)I"⟩ ∈ GT := mS (q := (⟨"AsleepPass$Tape", "byteAt", "(I)I"⟩, 2)) 6 (by decide +kernel)
theorem ws_7 : Cond.selects "AsleepPass$Reader" ⟨"AsleepPass$Reader", "refuse", "(II)Z"⟩ ⟨"AsleepPass$Reader", "refuse", "(II)Z"⟩ ∈ GT := mS (q := (⟨"AsleepPass$Reader", "refuse", "(II)Z"⟩, 12)) 7 (by decide +kernel)
theorem ws_8 : Cond.selects "AsleepPass$Reader" ⟨"AsleepPass$Reader", "readLine", "()Z"⟩ ⟨"AsleepPass$Reader", "readLine", "()Z"⟩ ∈ GT := mS (q := (⟨"AsleepPass$Reader", "readLine", "()Z"⟩, 12)) 8 (by decide +kernel)
theorem ws_9 : Cond.selects "AsleepPass$Reader" ⟨"AsleepPass$Reader", "isName", "(Ljava/lang/String;)Z"⟩ ⟨"AsleepPass$Reader", "isName", "(Ljava/lang/String;)Z"⟩ ∈ GT := mS (q := (⟨"AsleepPass$Reader", "isName", "(Ljava/lang/String;)Z"⟩, 12)) 9 (by decide +kernel)
theorem ws_10 : Cond.selects "AsleepPass$Tape" ⟨"AsleepPass$Tape", "says", "(IILjava/lang/String;)Z"⟩ ⟨"AsleepPass$Tape", "says", "(IILjava/lang/String;)Z"⟩ ∈ GT := mS (q := (⟨"AsleepPass$Tape", "says", "(IILjava/lang/String;)Z"⟩, 2)) 10 (by decide +kernel)
theorem ws_11 : Cond.selects "AsleepPass$Reader" ⟨"AsleepPass$Reader", "readStart", "()Z"⟩ ⟨"AsleepPass$Reader", "readStart", "()Z"⟩ ∈ GT := mS (q := (⟨"AsleepPass$Reader", "readStart", "()Z"⟩, 12)) 11 (by decide +kernel)
theorem ws_12 : Cond.selects "AsleepPass$Reader" ⟨"AsleepPass$Reader", "nextNumber", "(II)Z"⟩ ⟨"AsleepPass$Reader", "nextNumber", "(II)Z"⟩ ∈ GT := mS (q := (⟨"AsleepPass$Reader", "nextNumber", "(II)Z"⟩, 12)) 12 (by decide +kernel)
theorem ws_13 : Cond.selects "AsleepPass$Reader" ⟨"AsleepPass$Reader", "value", "()I"⟩ ⟨"AsleepPass$Reader", "value", "()I"⟩ ∈ GT := mS (q := (⟨"AsleepPass$Reader", "value", "()I"⟩, 12)) 13 (by decide +kernel)
theorem ws_14 : Cond.selects "AsleepPass$Reader" ⟨"AsleepPass$Reader", "nextStop", "()Z"⟩ ⟨"AsleepPass$Reader", "nextStop", "()Z"⟩ ∈ GT := mS (q := (⟨"AsleepPass$Reader", "nextStop", "()Z"⟩, 12)) 14 (by decide +kernel)
theorem ws_15 : Cond.selects "AsleepPass$Reader" ⟨"AsleepPass$Reader", "readStretch", "()Z"⟩ ⟨"AsleepPass$Reader", "readStretch", "()Z"⟩ ∈ GT := mS (q := (⟨"AsleepPass$Reader", "readStretch", "()Z"⟩, 12)) 15 (by decide +kernel)
theorem ws_16 : Cond.selects "AsleepPass$Way" ⟨"AsleepPass$Way", "addStretch", "(II)V"⟩ ⟨"AsleepPass$Way", "addStretch", "(II)V"⟩ ∈ GT := mS (q := (⟨"AsleepPass$Way", "addStretch", "(II)V"⟩, 9)) 16 (by decide +kernel)
theorem ws_17 : Cond.selects "AsleepPass$Reader" ⟨"AsleepPass$Reader", "readBearer", "()Z"⟩ ⟨"AsleepPass$Reader", "readBearer", "()Z"⟩ ∈ GT := mS (q := (⟨"AsleepPass$Reader", "readBearer", "()Z"⟩, 12)) 17 (by decide +kernel)
theorem ws_18 : Cond.selects "AsleepPass$Reader" ⟨"AsleepPass$Reader", "kind", "()I"⟩ ⟨"AsleepPass$Reader", "kind", "()I"⟩ ∈ GT := mS (q := (⟨"AsleepPass$Reader", "kind", "()I"⟩, 12)) 18 (by decide +kernel)
theorem ws_19 : Cond.selects "AsleepPass$Way" ⟨"AsleepPass$Way", "addBearer", "(III)V"⟩ ⟨"AsleepPass$Way", "addBearer", "(III)V"⟩ ∈ GT := mS (q := (⟨"AsleepPass$Way", "addBearer", "(III)V"⟩, 9)) 19 (by decide +kernel)
theorem ws_20 : Cond.selects "AsleepPass$Reader" ⟨"AsleepPass$Reader", "readCarry", "()Z"⟩ ⟨"AsleepPass$Reader", "readCarry", "()Z"⟩ ∈ GT := mS (q := (⟨"AsleepPass$Reader", "readCarry", "()Z"⟩, 12)) 20 (by decide +kernel)
theorem ws_21 : Cond.selects "AsleepPass$Reader" ⟨"AsleepPass$Reader", "lookBehindAll", "()V"⟩ ⟨"AsleepPass$Reader", "lookBehindAll", "()V"⟩ ∈ GT := mS (q := (⟨"AsleepPass$Reader", "lookBehindAll", "()V"⟩, 12)) 21 (by decide +kernel)
theorem ws_22 : Cond.selects "AsleepPass$Way" ⟨"AsleepPass$Way", "copyOf", "(LAsleepPass$Way;)V"⟩ ⟨"AsleepPass$Way", "copyOf", "(LAsleepPass$Way;)V"⟩ ∈ GT := mS (q := (⟨"AsleepPass$Way", "copyOf", "(LAsleepPass$Way;)V"⟩, 9)) 22 (by decide +kernel)
theorem ws_23 : Cond.selects "AsleepPass$Way" ⟨"AsleepPass$Way", "hasStretch", "(I)Z"⟩ ⟨"AsleepPass$Way", "hasStretch", "(I)Z"⟩ ∈ GT := mS (q := (⟨"AsleepPass$Way", "hasStretch", "(I)Z"⟩, 9)) 23 (by decide +kernel)
theorem ws_24 : Cond.selects "AsleepPass$Way" ⟨"AsleepPass$Way", "hasBearer", "(I)Z"⟩ ⟨"AsleepPass$Way", "hasBearer", "(I)Z"⟩ ∈ GT := mS (q := (⟨"AsleepPass$Way", "hasBearer", "(I)Z"⟩, 9)) 24 (by decide +kernel)
theorem ws_25 : Cond.selects "AsleepPass$Way" ⟨"AsleepPass$Way", "canHand", "(III)Z"⟩ ⟨"AsleepPass$Way", "canHand", "(III)Z"⟩ ∈ GT := mS (q := (⟨"AsleepPass$Way", "canHand", "(III)Z"⟩, 9)) 25 (by decide +kernel)
theorem ws_26 : Cond.selects "AsleepPass$Way" ⟨"AsleepPass$Way", "harmBy", "(III)I"⟩ ⟨"AsleepPass$Way", "harmBy", "(III)I"⟩ ∈ GT := mS (q := (⟨"AsleepPass$Way", "harmBy", "(III)I"⟩, 9)) 26 (by decide +kernel)
theorem ws_27 : Cond.selects "AsleepPass$Way" ⟨"AsleepPass$Way", "noiseBy", "(II)I"⟩ ⟨"AsleepPass$Way", "noiseBy", "(II)I"⟩ ∈ GT := mS (q := (⟨"AsleepPass$Way", "noiseBy", "(II)I"⟩, 9)) 27 (by decide +kernel)
theorem ws_28 : Cond.selects "AsleepPass$Way" ⟨"AsleepPass$Way", "coldBy", "(II)I"⟩ ⟨"AsleepPass$Way", "coldBy", "(II)I"⟩ ∈ GT := mS (q := (⟨"AsleepPass$Way", "coldBy", "(II)I"⟩, 9)) 28 (by decide +kernel)
theorem ws_29 : Cond.selects "AsleepPass$Way" ⟨"AsleepPass$Way", "joltBy", "(II)I"⟩ ⟨"AsleepPass$Way", "joltBy", "(II)I"⟩ ∈ GT := mS (q := (⟨"AsleepPass$Way", "joltBy", "(II)I"⟩, 9)) 29 (by decide +kernel)
theorem ws_30 : Cond.selects "AsleepPass$Odds" ⟨"AsleepPass$Odds", "waking", "(LAsleepPass$Way;II)J"⟩ ⟨"AsleepPass$Odds", "waking", "(LAsleepPass$Way;II)J"⟩ ∈ GT := mS (q := (⟨"AsleepPass$Odds", "waking", "(LAsleepPass$Way;II)J"⟩, 3)) 30 (by decide +kernel)
theorem ws_31 : Cond.selects "AsleepPass$Odds" ⟨"AsleepPass$Odds", "begin", "(I)V"⟩ ⟨"AsleepPass$Odds", "begin", "(I)V"⟩ ∈ GT := mS (q := (⟨"AsleepPass$Odds", "begin", "(I)V"⟩, 3)) 31 (by decide +kernel)
theorem ws_32 : Cond.selects "AsleepPass$Odds" ⟨"AsleepPass$Odds", "deepen", "()V"⟩ ⟨"AsleepPass$Odds", "deepen", "()V"⟩ ∈ GT := mS (q := (⟨"AsleepPass$Odds", "deepen", "()V"⟩, 3)) 32 (by decide +kernel)
theorem ws_33 : Cond.selects "AsleepPass$Odds" ⟨"AsleepPass$Odds", "takeAhead", "()V"⟩ ⟨"AsleepPass$Odds", "takeAhead", "()V"⟩ ∈ GT := mS (q := (⟨"AsleepPass$Odds", "takeAhead", "()V"⟩, 3)) 33 (by decide +kernel)
theorem ws_34 : Cond.selects "AsleepPass$Way" ⟨"AsleepPass$Way", "harmInOrder", "(I)I"⟩ ⟨"AsleepPass$Way", "harmInOrder", "(I)I"⟩ ∈ GT := mS (q := (⟨"AsleepPass$Way", "harmInOrder", "(I)I"⟩, 9)) 34 (by decide +kernel)
theorem ws_35 : Cond.selects "AsleepPass$Odds" ⟨"AsleepPass$Odds", "pass", "(I)V"⟩ ⟨"AsleepPass$Odds", "pass", "(I)V"⟩ ∈ GT := mS (q := (⟨"AsleepPass$Odds", "pass", "(I)V"⟩, 3)) 35 (by decide +kernel)
theorem ws_36 : Cond.selects "AsleepPass$Choice" ⟨"AsleepPass$Choice", "plan", "(LAsleepPass$Way;I)V"⟩ ⟨"AsleepPass$Choice", "plan", "(LAsleepPass$Way;I)V"⟩ ∈ GT := mS (q := (⟨"AsleepPass$Choice", "plan", "(LAsleepPass$Way;I)V"⟩, 3)) 36 (by decide +kernel)
theorem ws_37 : Cond.selects "AsleepPass$Choice" ⟨"AsleepPass$Choice", "chooseFrom", "(LAsleepPass$Way;III)V"⟩ ⟨"AsleepPass$Choice", "chooseFrom", "(LAsleepPass$Way;III)V"⟩ ∈ GT := mS (q := (⟨"AsleepPass$Choice", "chooseFrom", "(LAsleepPass$Way;III)V"⟩, 3)) 37 (by decide +kernel)
theorem ws_38 : Cond.selects "AsleepPass$Choice" ⟨"AsleepPass$Choice", "weigh", "(IIII)V"⟩ ⟨"AsleepPass$Choice", "weigh", "(IIII)V"⟩ ∈ GT := mS (q := (⟨"AsleepPass$Choice", "weigh", "(IIII)V"⟩, 3)) 38 (by decide +kernel)
theorem ws_39 : Cond.selects "AsleepPass$Choice" ⟨"AsleepPass$Choice", "wakingAtFirst", "(LAsleepPass$Way;)J"⟩ ⟨"AsleepPass$Choice", "wakingAtFirst", "(LAsleepPass$Way;)J"⟩ ∈ GT := mS (q := (⟨"AsleepPass$Choice", "wakingAtFirst", "(LAsleepPass$Way;)J"⟩, 3)) 39 (by decide +kernel)
theorem ws_40 : Cond.selects "AsleepPass" ⟨"AsleepPass", "stopNoises", "(I)V"⟩ ⟨"AsleepPass", "stopNoises", "(I)V"⟩ ∈ GT := mS (q := (⟨"AsleepPass", "stopNoises", "(I)V"⟩, 14)) 40 (by decide +kernel)
theorem ws_41 : Cond.selects "AsleepPass$Way" ⟨"AsleepPass$Way", "exchange", "(II)V"⟩ ⟨"AsleepPass$Way", "exchange", "(II)V"⟩ ∈ GT := mS (q := (⟨"AsleepPass$Way", "exchange", "(II)V"⟩, 9)) 41 (by decide +kernel)
theorem ws_42 : Cond.selects "AsleepPass$Crossing" ⟨"AsleepPass$Crossing", "cross", "(LAsleepPass$Way;I)V"⟩ ⟨"AsleepPass$Crossing", "cross", "(LAsleepPass$Way;I)V"⟩ ∈ GT := mS (q := (⟨"AsleepPass$Crossing", "cross", "(LAsleepPass$Way;I)V"⟩, 3)) 42 (by decide +kernel)
theorem ws_43 : Cond.selects "AsleepPass$Learnt" ⟨"AsleepPass$Learnt", "add", "(IIII)Z"⟩ ⟨"AsleepPass$Learnt", "add", "(IIII)Z"⟩ ∈ GT := mS (q := (⟨"AsleepPass$Learnt", "add", "(IIII)Z"⟩, 5)) 43 (by decide +kernel)
theorem ws_44 : Cond.selects "AsleepPass$Learnt" ⟨"AsleepPass$Learnt", "isSo", "(LAsleepPass$Way;)Z"⟩ ⟨"AsleepPass$Learnt", "isSo", "(LAsleepPass$Way;)Z"⟩ ∈ GT := mS (q := (⟨"AsleepPass$Learnt", "isSo", "(LAsleepPass$Way;)Z"⟩, 5)) 44 (by decide +kernel)
theorem ws_45 : Cond.selects "AsleepPass$Marked" ⟨"AsleepPass$Marked", "add", "(II)Z"⟩ ⟨"AsleepPass$Marked", "add", "(II)Z"⟩ ∈ GT := mS (q := (⟨"AsleepPass$Marked", "add", "(II)Z"⟩, 3)) 45 (by decide +kernel)
theorem ws_46 : Cond.selects "AsleepPass$Trails" ⟨"AsleepPass$Trails", "explore", "(LAsleepPass$Way;LAsleepPass$Marked;)V"⟩ ⟨"AsleepPass$Trails", "explore", "(LAsleepPass$Way;LAsleepPass$Marked;)V"⟩ ∈ GT := mS (q := (⟨"AsleepPass$Trails", "explore", "(LAsleepPass$Way;LAsleepPass$Marked;)V"⟩, 3)) 46 (by decide +kernel)
theorem ws_47 : Cond.selects "AsleepPass$Trails" ⟨"AsleepPass$Trails", "leadInto", "(II)V"⟩ ⟨"AsleepPass$Trails", "leadInto", "(II)V"⟩ ∈ GT := mS (q := (⟨"AsleepPass$Trails", "leadInto", "(II)V"⟩, 3)) 47 (by decide +kernel)
theorem ws_48 : Cond.selects "AsleepPass$Marked" ⟨"AsleepPass$Marked", "allows", "(II)Z"⟩ ⟨"AsleepPass$Marked", "allows", "(II)Z"⟩ ∈ GT := mS (q := (⟨"AsleepPass$Marked", "allows", "(II)Z"⟩, 3)) 48 (by decide +kernel)
theorem ws_49 : Cond.selects "AsleepPass$Trails" ⟨"AsleepPass$Trails", "leadOnward", "(II)V"⟩ ⟨"AsleepPass$Trails", "leadOnward", "(II)V"⟩ ∈ GT := mS (q := (⟨"AsleepPass$Trails", "leadOnward", "(II)V"⟩, 3)) 49 (by decide +kernel)
theorem ws_50 : Cond.selects "AsleepPass$Trails" ⟨"AsleepPass$Trails", "canBeBehind", "(II)Z"⟩ ⟨"AsleepPass$Trails", "canBeBehind", "(II)Z"⟩ ∈ GT := mS (q := (⟨"AsleepPass$Trails", "canBeBehind", "(II)Z"⟩, 3)) 50 (by decide +kernel)
theorem ws_51 : Cond.selects "AsleepPass$Trails" ⟨"AsleepPass$Trails", "falling", "(LAsleepPass$Way;I)I"⟩ ⟨"AsleepPass$Trails", "falling", "(LAsleepPass$Way;I)I"⟩ ∈ GT := mS (q := (⟨"AsleepPass$Trails", "falling", "(LAsleepPass$Way;I)I"⟩, 3)) 51 (by decide +kernel)
theorem ws_52 : Cond.selects "AsleepPass$Trails" ⟨"AsleepPass$Trails", "rising", "(LAsleepPass$Way;I)I"⟩ ⟨"AsleepPass$Trails", "rising", "(LAsleepPass$Way;I)I"⟩ ∈ GT := mS (q := (⟨"AsleepPass$Trails", "rising", "(LAsleepPass$Way;I)I"⟩, 3)) 52 (by decide +kernel)
theorem ws_53 : Cond.selects "AsleepPass$Sheets" ⟨"AsleepPass$Sheets", "renew", "(III)V"⟩ ⟨"AsleepPass$Sheets", "renew", "(III)V"⟩ ∈ GT := mS (q := (⟨"AsleepPass$Sheets", "renew", "(III)V"⟩, 7)) 53 (by decide +kernel)
theorem ws_54 : Cond.selects "AsleepPass$Sheets" ⟨"AsleepPass$Sheets", "faultAt", "(IJ)I"⟩ ⟨"AsleepPass$Sheets", "faultAt", "(IJ)I"⟩ ∈ GT := mS (q := (⟨"AsleepPass$Sheets", "faultAt", "(IJ)I"⟩, 7)) 54 (by decide +kernel)
theorem ws_55 : Cond.selects "AsleepPass$Sheets" ⟨"AsleepPass$Sheets", "fill", "(III)V"⟩ ⟨"AsleepPass$Sheets", "fill", "(III)V"⟩ ∈ GT := mS (q := (⟨"AsleepPass$Sheets", "fill", "(III)V"⟩, 7)) 55 (by decide +kernel)
theorem ws_56 : Cond.selects "AsleepPass$Sheets" ⟨"AsleepPass$Sheets", "takePairs", "(IIII)V"⟩ ⟨"AsleepPass$Sheets", "takePairs", "(IIII)V"⟩ ∈ GT := mS (q := (⟨"AsleepPass$Sheets", "takePairs", "(IIII)V"⟩, 7)) 56 (by decide +kernel)
theorem ws_57 : Cond.selects "AsleepPass$Sheets" ⟨"AsleepPass$Sheets", "sizeOf", "(I)I"⟩ ⟨"AsleepPass$Sheets", "sizeOf", "(I)I"⟩ ∈ GT := mS (q := (⟨"AsleepPass$Sheets", "sizeOf", "(I)I"⟩, 7)) 57 (by decide +kernel)
theorem ws_58 : Cond.selects "AsleepPass$Way" ⟨"AsleepPass$Way", "handOvers", "()I"⟩ ⟨"AsleepPass$Way", "handOvers", "()I"⟩ ∈ GT := mS (q := (⟨"AsleepPass$Way", "handOvers", "()I"⟩, 9)) 58 (by decide +kernel)
theorem ws_59 : Cond.selects "AsleepPassModel" ⟨"AsleepPassModel", "goesOn", "()V"⟩ ⟨"AsleepPassModel", "goesOn", "()V"⟩ ∈ GT := mS (q := (⟨"AsleepPassModel", "goesOn", "()V"⟩, 35)) 59 (by decide +kernel)
theorem ws_60 : Cond.selects "AsleepPassModel" ⟨"AsleepPassModel", "byteAt", "(I)I"⟩ ⟨"AsleepPassModel", "byteAt", "(I)I"⟩ ∈ GT := mS (q := (⟨"AsleepPassModel", "byteAt", "(I)I"⟩, 35)) 60 (by decide +kernel)
theorem ws_61 : Cond.selects "AsleepPassModel" ⟨"AsleepPassModel", "fails", "(I)V"⟩ ⟨"AsleepPassModel", "fails", "(I)V"⟩ ∈ GT := mS (q := (⟨"AsleepPassModel", "fails", "(I)V"⟩, 35)) 61 (by decide +kernel)
theorem ws_62 : Cond.selects "AsleepPassModel" ⟨"AsleepPassModel", "readLine", "()V"⟩ ⟨"AsleepPassModel", "readLine", "()V"⟩ ∈ GT := mS (q := (⟨"AsleepPassModel", "readLine", "()V"⟩, 35)) 62 (by decide +kernel)
theorem ws_63 : Cond.selects "AsleepPassModel" ⟨"AsleepPassModel", "nameHere", "()I"⟩ ⟨"AsleepPassModel", "nameHere", "()I"⟩ ∈ GT := mS (q := (⟨"AsleepPassModel", "nameHere", "()I"⟩, 35)) 63 (by decide +kernel)
theorem ws_64 : Cond.selects "AsleepPassModel" ⟨"AsleepPassModel", "readBearer", "()V"⟩ ⟨"AsleepPassModel", "readBearer", "()V"⟩ ∈ GT := mS (q := (⟨"AsleepPassModel", "readBearer", "()V"⟩, 35)) 64 (by decide +kernel)
theorem ws_65 : Cond.selects "AsleepPassModel" ⟨"AsleepPassModel", "other", "(III)I"⟩ ⟨"AsleepPassModel", "other", "(III)I"⟩ ∈ GT := mS (q := (⟨"AsleepPassModel", "other", "(III)I"⟩, 35)) 65 (by decide +kernel)
theorem ws_66 : Cond.selects "AsleepPassModel" ⟨"AsleepPassModel", "readMore", "(I)V"⟩ ⟨"AsleepPassModel", "readMore", "(I)V"⟩ ∈ GT := mS (q := (⟨"AsleepPassModel", "readMore", "(I)V"⟩, 35)) 66 (by decide +kernel)
theorem ws_67 : Cond.selects "AsleepPassModel" ⟨"AsleepPassModel", "startNow", "()I"⟩ ⟨"AsleepPassModel", "startNow", "()I"⟩ ∈ GT := mS (q := (⟨"AsleepPassModel", "startNow", "()I"⟩, 35)) 67 (by decide +kernel)
theorem ws_68 : Cond.selects "AsleepPassModel" ⟨"AsleepPassModel", "isStretch", "(I)Z"⟩ ⟨"AsleepPassModel", "isStretch", "(I)Z"⟩ ∈ GT := mS (q := (⟨"AsleepPassModel", "isStretch", "(I)Z"⟩, 35)) 68 (by decide +kernel)
theorem ws_69 : Cond.selects "AsleepPassModel" ⟨"AsleepPassModel", "isBearer", "(I)Z"⟩ ⟨"AsleepPassModel", "isBearer", "(I)Z"⟩ ∈ GT := mS (q := (⟨"AsleepPassModel", "isBearer", "(I)Z"⟩, 35)) 69 (by decide +kernel)
theorem ws_70 : Cond.selects "AsleepPassModel" ⟨"AsleepPassModel", "sets", "(ZII)I"⟩ ⟨"AsleepPassModel", "sets", "(ZII)I"⟩ ∈ GT := mS (q := (⟨"AsleepPassModel", "sets", "(ZII)I"⟩, 35)) 70 (by decide +kernel)
theorem ws_71 : Cond.selects "AsleepPassModel" ⟨"AsleepPassModel", "puts", "(II)I"⟩ ⟨"AsleepPassModel", "puts", "(II)I"⟩ ∈ GT := mS (q := (⟨"AsleepPassModel", "puts", "(II)I"⟩, 35)) 71 (by decide +kernel)
theorem ws_72 : Cond.selects "AsleepPassModel" ⟨"AsleepPassModel", "canHarm", "(III)Z"⟩ ⟨"AsleepPassModel", "canHarm", "(III)Z"⟩ ∈ GT := mS (q := (⟨"AsleepPassModel", "canHarm", "(III)Z"⟩, 35)) 72 (by decide +kernel)
theorem ws_73 : Cond.selects "AsleepPassModel" ⟨"AsleepPassModel", "harmOf", "(IIIZ)I"⟩ ⟨"AsleepPassModel", "harmOf", "(IIIZ)I"⟩ ∈ GT := mS (q := (⟨"AsleepPassModel", "harmOf", "(IIIZ)I"⟩, 35)) 73 (by decide +kernel)
theorem ws_74 : Cond.selects "AsleepPassModel" ⟨"AsleepPassModel", "kindOf", "(I)I"⟩ ⟨"AsleepPassModel", "kindOf", "(I)I"⟩ ∈ GT := mS (q := (⟨"AsleepPassModel", "kindOf", "(I)I"⟩, 35)) 74 (by decide +kernel)
theorem ws_75 : Cond.selects "AsleepPassModel" ⟨"AsleepPassModel", "layOdds", "(III)V"⟩ ⟨"AsleepPassModel", "layOdds", "(III)V"⟩ ∈ GT := mS (q := (⟨"AsleepPassModel", "layOdds", "(III)V"⟩, 35)) 75 (by decide +kernel)
theorem ws_76 : Cond.selects "AsleepPassModel" ⟨"AsleepPassModel", "orderedHarm", "(IZ)I"⟩ ⟨"AsleepPassModel", "orderedHarm", "(IZ)I"⟩ ∈ GT := mS (q := (⟨"AsleepPassModel", "orderedHarm", "(IZ)I"⟩, 35)) 76 (by decide +kernel)
theorem ws_77 : Cond.selects "AsleepPassModel" ⟨"AsleepPassModel", "layBest", "(I)V"⟩ ⟨"AsleepPassModel", "layBest", "(I)V"⟩ ∈ GT := mS (q := (⟨"AsleepPassModel", "layBest", "(I)V"⟩, 35)) 77 (by decide +kernel)
theorem ws_78 : Cond.selects "AsleepPassModel" ⟨"AsleepPassModel", "byOne", "(IIII)J"⟩ ⟨"AsleepPassModel", "byOne", "(IIII)J"⟩ ∈ GT := mS (q := (⟨"AsleepPassModel", "byOne", "(IIII)J"⟩, 35)) 78 (by decide +kernel)
theorem ws_79 : Cond.selects "AsleepPassModel" ⟨"AsleepPassModel", "changes", "(II)V"⟩ ⟨"AsleepPassModel", "changes", "(II)V"⟩ ∈ GT := mS (q := (⟨"AsleepPassModel", "changes", "(II)V"⟩, 35)) 79 (by decide +kernel)
theorem ws_80 : Cond.selects "AsleepPassModel" ⟨"AsleepPassModel", "layPaths", "()V"⟩ ⟨"AsleepPassModel", "layPaths", "()V"⟩ ∈ GT := mS (q := (⟨"AsleepPassModel", "layPaths", "()V"⟩, 35)) 80 (by decide +kernel)
theorem ws_81 : Cond.selects "AsleepPassModel" ⟨"AsleepPassModel", "depthThen", "(IIZ)I"⟩ ⟨"AsleepPassModel", "depthThen", "(IIZ)I"⟩ ∈ GT := mS (q := (⟨"AsleepPassModel", "depthThen", "(IIZ)I"⟩, 35)) 81 (by decide +kernel)
theorem ws_82 : Cond.selects "AsleepPassModel" ⟨"AsleepPassModel", "isMarked", "(II)Z"⟩ ⟨"AsleepPassModel", "isMarked", "(II)Z"⟩ ∈ GT := mS (q := (⟨"AsleepPassModel", "isMarked", "(II)Z"⟩, 35)) 82 (by decide +kernel)
theorem ws_83 : Cond.selects "AsleepPassModel" ⟨"AsleepPassModel", "onward", "(IIZ)I"⟩ ⟨"AsleepPassModel", "onward", "(IIZ)I"⟩ ∈ GT := mS (q := (⟨"AsleepPassModel", "onward", "(IIZ)I"⟩, 35)) 83 (by decide +kernel)
theorem ws_84 : Cond.selects "AsleepPassModel" ⟨"AsleepPassModel", "copies", "(II)V"⟩ ⟨"AsleepPassModel", "copies", "(II)V"⟩ ∈ GT := mS (q := (⟨"AsleepPassModel", "copies", "(II)V"⟩, 35)) 84 (by decide +kernel)
theorem inG0 : ∀ w ∈ u_ws RX0 TX0 3, w ∈ GT := by
  intro w hw
  obtain ⟨k, hk, rfl⟩ := List.mem_map.mp hw
  have hk := List.mem_range.mp hk
  match k, hk with
  | 0, _ => exact wt_185
  | 1, _ => exact wt_187
  | 2, _ => exact wt_189
  | k + 3, h => exact absurd h (by omega)
theorem inG1 : ∀ w ∈ u_ws RX1 TX1 3, w ∈ GT := by
  intro w hw
  obtain ⟨k, hk, rfl⟩ := List.mem_map.mp hw
  have hk := List.mem_range.mp hk
  match k, hk with
  | 0, _ => exact wt_204
  | 1, _ => exact wt_206
  | 2, _ => exact wt_208
  | k + 3, h => exact absurd h (by omega)
theorem inG2 : ∀ w ∈ u_ws RX2 TX2 5, w ∈ GT := by
  intro w hw
  obtain ⟨k, hk, rfl⟩ := List.mem_map.mp hw
  have hk := List.mem_range.mp hk
  match k, hk with
  | 0, _ => exact wt_223
  | 1, _ => exact wt_225
  | 2, _ => exact wt_227
  | 3, _ => exact wt_229
  | 4, _ => exact wt_231
  | k + 5, h => exact absurd h (by omega)
theorem inG3 : ∀ w ∈ u_ws RX3 TX3 3, w ∈ GT := by
  intro w hw
  obtain ⟨k, hk, rfl⟩ := List.mem_map.mp hw
  have hk := List.mem_range.mp hk
  match k, hk with
  | 0, _ => exact wt_244
  | 1, _ => exact wt_246
  | 2, _ => exact wt_248
  | k + 3, h => exact absurd h (by omega)
theorem inG4 : ∀ w ∈ u_ws RX4 TX4 3, w ∈ GT := by
  intro w hw
  obtain ⟨k, hk, rfl⟩ := List.mem_map.mp hw
  have hk := List.mem_range.mp hk
  match k, hk with
  | 0, _ => exact wt_161
  | 1, _ => exact wt_163
  | 2, _ => exact wt_165
  | k + 3, h => exact absurd h (by omega)
theorem inG5 : ∀ w ∈ u_ws RX5 TX5 12, w ∈ GT := by
  intro w hw
  obtain ⟨k, hk, rfl⟩ := List.mem_map.mp hw
  have hk := List.mem_range.mp hk
  match k, hk with
  | 0, _ => exact wt_122
  | 1, _ => exact wt_124
  | 2, _ => exact wt_126
  | 3, _ => exact wt_128
  | 4, _ => exact wt_130
  | 5, _ => exact wt_132
  | 6, _ => exact wt_134
  | 7, _ => exact wt_136
  | 8, _ => exact wt_138
  | 9, _ => exact wt_140
  | 10, _ => exact wt_142
  | 11, _ => exact wt_144
  | k + 12, h => exact absurd h (by omega)
theorem inG6 : ∀ w ∈ u_ws RX6 TX6 7, w ∈ GT := by
  intro w hw
  obtain ⟨k, hk, rfl⟩ := List.mem_map.mp hw
  have hk := List.mem_range.mp hk
  match k, hk with
  | 0, _ => exact wt_287
  | 1, _ => exact wt_289
  | 2, _ => exact wt_291
  | 3, _ => exact wt_293
  | 4, _ => exact wt_295
  | 5, _ => exact wt_297
  | 6, _ => exact wt_299
  | k + 7, h => exact absurd h (by omega)
theorem inG7 : ∀ w ∈ u_ws RX7 TX7 2, w ∈ GT := by
  intro w hw
  obtain ⟨k, hk, rfl⟩ := List.mem_map.mp hw
  have hk := List.mem_range.mp hk
  match k, hk with
  | 0, _ => exact wt_44
  | 1, _ => exact wt_46
  | k + 2, h => exact absurd h (by omega)
theorem inG8 : ∀ w ∈ u_ws RX8 TX8 3, w ∈ GT := by
  intro w hw
  obtain ⟨k, hk, rfl⟩ := List.mem_map.mp hw
  have hk := List.mem_range.mp hk
  match k, hk with
  | 0, _ => exact wt_262
  | 1, _ => exact wt_264
  | 2, _ => exact wt_266
  | k + 3, h => exact absurd h (by omega)
theorem inG9 : ∀ w ∈ u_ws RX9 TX9 9, w ∈ GT := by
  intro w hw
  obtain ⟨k, hk, rfl⟩ := List.mem_map.mp hw
  have hk := List.mem_range.mp hk
  match k, hk with
  | 0, _ => exact wt_86
  | 1, _ => exact wt_88
  | 2, _ => exact wt_90
  | 3, _ => exact wt_92
  | 4, _ => exact wt_94
  | 5, _ => exact wt_96
  | 6, _ => exact wt_98
  | 7, _ => exact wt_100
  | 8, _ => exact wt_102
  | k + 9, h => exact absurd h (by omega)
theorem inG10 : ∀ w ∈ u_ws RX10 TX10 14, w ∈ GT := by
  intro w hw
  obtain ⟨k, hk, rfl⟩ := List.mem_map.mp hw
  have hk := List.mem_range.mp hk
  match k, hk with
  | 0, _ => exact wt_316
  | 1, _ => exact wt_318
  | 2, _ => exact wt_320
  | 3, _ => exact wt_322
  | 4, _ => exact wt_324
  | 5, _ => exact wt_326
  | 6, _ => exact wt_328
  | 7, _ => exact wt_330
  | 8, _ => exact wt_332
  | 9, _ => exact wt_334
  | 10, _ => exact wt_336
  | 11, _ => exact wt_338
  | 12, _ => exact wt_340
  | 13, _ => exact wt_342
  | k + 14, h => exact absurd h (by omega)
theorem inG11 : ∀ w ∈ u_ws RX11 TX11 35, w ∈ GT := by
  intro w hw
  obtain ⟨k, hk, rfl⟩ := List.mem_map.mp hw
  have hk := List.mem_range.mp hk
  match k, hk with
  | 0, _ => exact wt_913
  | 1, _ => exact wt_915
  | 2, _ => exact wt_917
  | 3, _ => exact wt_919
  | 4, _ => exact wt_921
  | 5, _ => exact wt_923
  | 6, _ => exact wt_925
  | 7, _ => exact wt_927
  | 8, _ => exact wt_929
  | 9, _ => exact wt_931
  | 10, _ => exact wt_933
  | 11, _ => exact wt_935
  | 12, _ => exact wt_937
  | 13, _ => exact wt_939
  | 14, _ => exact wt_941
  | 15, _ => exact wt_943
  | 16, _ => exact wt_945
  | 17, _ => exact wt_947
  | 18, _ => exact wt_949
  | 19, _ => exact wt_951
  | 20, _ => exact wt_953
  | 21, _ => exact wt_955
  | 22, _ => exact wt_957
  | 23, _ => exact wt_959
  | 24, _ => exact wt_961
  | 25, _ => exact wt_963
  | 26, _ => exact wt_965
  | 27, _ => exact wt_967
  | 28, _ => exact wt_969
  | 29, _ => exact wt_971
  | 30, _ => exact wt_973
  | 31, _ => exact wt_975
  | 32, _ => exact wt_977
  | 33, _ => exact wt_979
  | 34, _ => exact wt_981
  | k + 35, h => exact absurd h (by omega)
theorem nc_RX0 : RX0 ≠ "java/lang/invoke/MethodHandle" ∧ RX0 ≠ "java/lang/invoke/VarHandle" := ⟨by decide +kernel, by decide +kernel⟩
theorem nc_RX1 : RX1 ≠ "java/lang/invoke/MethodHandle" ∧ RX1 ≠ "java/lang/invoke/VarHandle" := ⟨by decide +kernel, by decide +kernel⟩
theorem nc_RX2 : RX2 ≠ "java/lang/invoke/MethodHandle" ∧ RX2 ≠ "java/lang/invoke/VarHandle" := ⟨by decide +kernel, by decide +kernel⟩
theorem nc_RX3 : RX3 ≠ "java/lang/invoke/MethodHandle" ∧ RX3 ≠ "java/lang/invoke/VarHandle" := ⟨by decide +kernel, by decide +kernel⟩
theorem nc_RX4 : RX4 ≠ "java/lang/invoke/MethodHandle" ∧ RX4 ≠ "java/lang/invoke/VarHandle" := ⟨by decide +kernel, by decide +kernel⟩
theorem nc_RX5 : RX5 ≠ "java/lang/invoke/MethodHandle" ∧ RX5 ≠ "java/lang/invoke/VarHandle" := ⟨by decide +kernel, by decide +kernel⟩
theorem nc_RX6 : RX6 ≠ "java/lang/invoke/MethodHandle" ∧ RX6 ≠ "java/lang/invoke/VarHandle" := ⟨by decide +kernel, by decide +kernel⟩
theorem nc_RX7 : RX7 ≠ "java/lang/invoke/MethodHandle" ∧ RX7 ≠ "java/lang/invoke/VarHandle" := ⟨by decide +kernel, by decide +kernel⟩
theorem nc_RX8 : RX8 ≠ "java/lang/invoke/MethodHandle" ∧ RX8 ≠ "java/lang/invoke/VarHandle" := ⟨by decide +kernel, by decide +kernel⟩
theorem nc_RX9 : RX9 ≠ "java/lang/invoke/MethodHandle" ∧ RX9 ≠ "java/lang/invoke/VarHandle" := ⟨by decide +kernel, by decide +kernel⟩
theorem nc_RX10 : RX10 ≠ "java/lang/invoke/MethodHandle" ∧ RX10 ≠ "java/lang/invoke/VarHandle" := ⟨by decide +kernel, by decide +kernel⟩
theorem nc_RX11 : RX11 ≠ "java/lang/invoke/MethodHandle" ∧ RX11 ≠ "java/lang/invoke/VarHandle" := ⟨by decide +kernel, by decide +kernel⟩
theorem nc_RJ6 : RJ6 ≠ "java/lang/invoke/MethodHandle" ∧ RJ6 ≠ "java/lang/invoke/VarHandle" := ⟨by decide +kernel, by decide +kernel⟩
theorem nc_RJ9 : RJ9 ≠ "java/lang/invoke/MethodHandle" ∧ RJ9 ≠ "java/lang/invoke/VarHandle" := ⟨by decide +kernel, by decide +kernel⟩
theorem nc_RJ0 : RJ0 ≠ "java/lang/invoke/MethodHandle" ∧ RJ0 ≠ "java/lang/invoke/VarHandle" := ⟨by decide +kernel, by decide +kernel⟩
theorem nc_RJ1 : RJ1 ≠ "java/lang/invoke/MethodHandle" ∧ RJ1 ≠ "java/lang/invoke/VarHandle" := ⟨by decide +kernel, by decide +kernel⟩
theorem nc_RJ3 : RJ3 ≠ "java/lang/invoke/MethodHandle" ∧ RJ3 ≠ "java/lang/invoke/VarHandle" := ⟨by decide +kernel, by decide +kernel⟩
theorem pd_0 : (parseMethodDescriptor "()V").map (fun d => d.parameters.length) = some 0 := by decide +kernel
theorem pd_1 : (parseMethodDescriptor "(II)I").map (fun d => d.parameters.length) = some 2 := by decide +kernel
theorem pd_2 : (parseMethodDescriptor "(LAsleepPass$Way;I)V").map (fun d => d.parameters.length) = some 2 := by decide +kernel
theorem pd_3 : (parseMethodDescriptor "(LAsleepPass$Way;III)V").map (fun d => d.parameters.length) = some 4 := by decide +kernel
theorem pd_4 : (parseMethodDescriptor "(IIII)V").map (fun d => d.parameters.length) = some 4 := by decide +kernel
theorem pd_5 : (parseMethodDescriptor "(LAsleepPass$Way;)J").map (fun d => d.parameters.length) = some 1 := by decide +kernel
theorem pd_6 : (parseMethodDescriptor "(IIII)Z").map (fun d => d.parameters.length) = some 4 := by decide +kernel
theorem pd_7 : (parseMethodDescriptor "(LAsleepPass$Way;)Z").map (fun d => d.parameters.length) = some 1 := by decide +kernel
theorem pd_8 : (parseMethodDescriptor "(II)Z").map (fun d => d.parameters.length) = some 2 := by decide +kernel
theorem pd_9 : (parseMethodDescriptor "(LAsleepPass$Way;II)J").map (fun d => d.parameters.length) = some 3 := by decide +kernel
theorem pd_10 : (parseMethodDescriptor "(I)V").map (fun d => d.parameters.length) = some 1 := by decide +kernel
theorem pd_11 : (parseMethodDescriptor "()Z").map (fun d => d.parameters.length) = some 0 := by decide +kernel
theorem pd_12 : (parseMethodDescriptor "(Ljava/lang/String;)Z").map (fun d => d.parameters.length) = some 1 := by decide +kernel
theorem pd_13 : (parseMethodDescriptor "()I").map (fun d => d.parameters.length) = some 0 := by decide +kernel
theorem pd_14 : (parseMethodDescriptor "(I)Z").map (fun d => d.parameters.length) = some 1 := by decide +kernel
theorem pd_15 : (parseMethodDescriptor "(III)V").map (fun d => d.parameters.length) = some 3 := by decide +kernel
theorem pd_16 : (parseMethodDescriptor "(I)I").map (fun d => d.parameters.length) = some 1 := by decide +kernel
theorem pd_17 : (parseMethodDescriptor "(IJ)I").map (fun d => d.parameters.length) = some 2 := by decide +kernel
theorem pd_18 : (parseMethodDescriptor "(J)Z").map (fun d => d.parameters.length) = some 1 := by decide +kernel
theorem pd_19 : (parseMethodDescriptor "(IILjava/lang/String;)Z").map (fun d => d.parameters.length) = some 3 := by decide +kernel
theorem pd_20 : (parseMethodDescriptor "(ICC)I").map (fun d => d.parameters.length) = some 3 := by decide +kernel
theorem pd_21 : (parseMethodDescriptor "(LAsleepPass$Way;LAsleepPass$Marked;)V").map (fun d => d.parameters.length) = some 2 := by decide +kernel
theorem pd_22 : (parseMethodDescriptor "([ILAsleepPass$Marked;I)V").map (fun d => d.parameters.length) = some 3 := by decide +kernel
theorem pd_23 : (parseMethodDescriptor "(II)V").map (fun d => d.parameters.length) = some 2 := by decide +kernel
theorem pd_24 : (parseMethodDescriptor "(LAsleepPass$Way;I)I").map (fun d => d.parameters.length) = some 2 := by decide +kernel
theorem pd_25 : (parseMethodDescriptor "(LAsleepPass$Way;)V").map (fun d => d.parameters.length) = some 1 := by decide +kernel
theorem pd_26 : (parseMethodDescriptor "(III)Z").map (fun d => d.parameters.length) = some 3 := by decide +kernel
theorem pd_27 : (parseMethodDescriptor "(III)I").map (fun d => d.parameters.length) = some 3 := by decide +kernel
theorem pd_28 : (parseMethodDescriptor "(J)I").map (fun d => d.parameters.length) = some 1 := by decide +kernel
theorem pd_29 : (parseMethodDescriptor "([III)I").map (fun d => d.parameters.length) = some 3 := by decide +kernel
theorem pd_30 : (parseMethodDescriptor "(I)J").map (fun d => d.parameters.length) = some 1 := by decide +kernel
theorem pd_31 : (parseMethodDescriptor "(II)J").map (fun d => d.parameters.length) = some 2 := by decide +kernel
theorem pd_32 : (parseMethodDescriptor "(III)J").map (fun d => d.parameters.length) = some 3 := by decide +kernel
theorem pd_33 : (parseMethodDescriptor "(IIII)I").map (fun d => d.parameters.length) = some 4 := by decide +kernel
theorem pd_34 : (parseMethodDescriptor "(JJI)J").map (fun d => d.parameters.length) = some 3 := by decide +kernel
theorem pd_35 : (parseMethodDescriptor "(JJ)J").map (fun d => d.parameters.length) = some 2 := by decide +kernel
theorem pd_36 : (parseMethodDescriptor "(JJJ)Z").map (fun d => d.parameters.length) = some 3 := by decide +kernel
theorem pd_37 : (parseMethodDescriptor "(ZII)I").map (fun d => d.parameters.length) = some 3 := by decide +kernel
theorem pd_38 : (parseMethodDescriptor "(IIIZ)I").map (fun d => d.parameters.length) = some 4 := by decide +kernel
theorem pd_39 : (parseMethodDescriptor "(IZ)I").map (fun d => d.parameters.length) = some 2 := by decide +kernel
theorem pd_40 : (parseMethodDescriptor "(IIII)J").map (fun d => d.parameters.length) = some 4 := by decide +kernel
theorem pd_41 : (parseMethodDescriptor "(IIZ)I").map (fun d => d.parameters.length) = some 3 := by decide +kernel
theorem pd_42 : (parseMethodDescriptor "(I)C").map (fun d => d.parameters.length) = some 1 := by decide +kernel
theorem pd_43 : (parseMethodDescriptor "()B").map (fun d => d.parameters.length) = some 0 := by decide +kernel
theorem pd_44 : (parseMethodDescriptor "([BI)C").map (fun d => d.parameters.length) = some 2 := by decide +kernel
theorem pd_47 : (parseMethodDescriptor "(IILjava/util/function/BiFunction;)I").map (fun d => d.parameters.length) = some 3 := by decide +kernel
theorem mfX0_init : MFI yX0_init cX0_init 1 0 := ⟨wt_174, wt_173, wt_6, rfl, ⟨nc_RX0.1, nc_RX0.2, pd_0⟩⟩
theorem mfX0_slot : MFS yX0_slot cX0_slot 2 (some .int) 2 := ⟨wt_668, wt_667, wt_6, ⟨nc_RX0.1, nc_RX0.2, pd_1⟩⟩
theorem mfX0_plan : MF yX0_plan cX0_plan 5 none 2 := ⟨wt_660, wt_659, ws_36, wt_6, ⟨nc_RX0.1, nc_RX0.2, pd_2⟩⟩
theorem mfX0_chooseFrom : MF yX0_chooseFrom cX0_chooseFrom 6 none 4 := ⟨wt_665, wt_664, ws_37, wt_6, ⟨nc_RX0.1, nc_RX0.2, pd_3⟩⟩
theorem mfX0_weigh : MF yX0_weigh cX0_weigh 12 none 4 := ⟨wt_674, wt_673, ws_38, wt_6, ⟨nc_RX0.1, nc_RX0.2, pd_4⟩⟩
theorem mfX0_wakingAtFirst : MF yX0_wakingAtFirst cX0_wakingAtFirst 2 (some .long) 1 := ⟨wt_679, wt_678, ws_39, wt_6, ⟨nc_RX0.1, nc_RX0.2, pd_5⟩⟩
theorem mfX1_init : MFI yX1_init cX1_init 1 0 := ⟨wt_196, wt_195, wt_7, rfl, ⟨nc_RX1.1, nc_RX1.2, pd_0⟩⟩
theorem mfX1_cross : MF yX1_cross cX1_cross 5 none 2 := ⟨wt_726, wt_725, ws_42, wt_7, ⟨nc_RX1.1, nc_RX1.2, pd_2⟩⟩
theorem mfX2_init : MFI yX2_init cX2_init 1 0 := ⟨wt_215, wt_214, wt_8, rfl, ⟨nc_RX2.1, nc_RX2.2, pd_0⟩⟩
theorem mfX2_add : MF yX2_add cX2_add 5 (some .boolean) 4 := ⟨wt_737, wt_736, ws_43, wt_8, ⟨nc_RX2.1, nc_RX2.2, pd_6⟩⟩
theorem mfX2_isSo : MF yX2_isSo cX2_isSo 3 (some .boolean) 1 := ⟨wt_749, wt_748, ws_44, wt_8, ⟨nc_RX2.1, nc_RX2.2, pd_7⟩⟩
theorem mfX3_init : MFI yX3_init cX3_init 1 0 := ⟨wt_238, wt_237, wt_9, rfl, ⟨nc_RX3.1, nc_RX3.2, pd_0⟩⟩
theorem mfX3_add : MF yX3_add cX3_add 3 (some .boolean) 2 := ⟨wt_758, wt_757, ws_45, wt_9, ⟨nc_RX3.1, nc_RX3.2, pd_8⟩⟩
theorem mfX3_allows : MF yX3_allows cX3_allows 4 (some .boolean) 2 := ⟨wt_783, wt_782, ws_48, wt_9, ⟨nc_RX3.1, nc_RX3.2, pd_8⟩⟩
theorem mfX4_init : MFI yX4_init cX4_init 1 0 := ⟨wt_154, wt_153, wt_5, rfl, ⟨nc_RX4.1, nc_RX4.2, pd_0⟩⟩
theorem mfX4_waking : MF yX4_waking cX4_waking 5 (some .long) 3 := ⟨wt_611, wt_610, ws_30, wt_5, ⟨nc_RX4.1, nc_RX4.2, pd_9⟩⟩
theorem mfX4_begin : MF yX4_begin cX4_begin 3 none 1 := ⟨wt_615, wt_614, ws_31, wt_5, ⟨nc_RX4.1, nc_RX4.2, pd_10⟩⟩
theorem mfX4_takeAhead : MF yX4_takeAhead cX4_takeAhead 2 none 0 := ⟨wt_623, wt_622, ws_33, wt_5, ⟨nc_RX4.1, nc_RX4.2, pd_0⟩⟩
theorem mfX4_pass : MF yX4_pass cX4_pass 3 none 1 := ⟨wt_633, wt_632, ws_35, wt_5, ⟨nc_RX4.1, nc_RX4.2, pd_10⟩⟩
theorem mfX4_deepen : MF yX4_deepen cX4_deepen 2 none 0 := ⟨wt_619, wt_618, ws_32, wt_5, ⟨nc_RX4.1, nc_RX4.2, pd_0⟩⟩
theorem mfX5_init : MFI yX5_init cX5_init 1 0 := ⟨wt_32, wt_31, wt_2, rfl, ⟨nc_RX5.1, nc_RX5.2, pd_0⟩⟩
theorem mfX5_readAll : MF yX5_readAll cX5_readAll 2 none 0 := ⟨wt_365, wt_364, ws_1, wt_2, ⟨nc_RX5.1, nc_RX5.2, pd_0⟩⟩
theorem mfX5_begin : MF yX5_begin cX5_begin 1 none 0 := ⟨wt_369, wt_368, ws_2, wt_2, ⟨nc_RX5.1, nc_RX5.2, pd_0⟩⟩
theorem mfX5_refuse : MF yX5_refuse cX5_refuse 3 (some .boolean) 2 := ⟨wt_389, wt_388, ws_7, wt_2, ⟨nc_RX5.1, nc_RX5.2, pd_8⟩⟩
theorem mfX5_nextToken : MF yX5_nextToken cX5_nextToken 2 (some .boolean) 0 := ⟨wt_377, wt_376, ws_4, wt_2, ⟨nc_RX5.1, nc_RX5.2, pd_11⟩⟩
theorem mfX5_isName : MF yX5_isName cX5_isName 2 (some .boolean) 1 := ⟨wt_398, wt_397, ws_9, wt_2, ⟨nc_RX5.1, nc_RX5.2, pd_12⟩⟩
theorem mfX5_readLine : MF yX5_readLine cX5_readLine 1 (some .boolean) 0 := ⟨wt_393, wt_392, ws_8, wt_2, ⟨nc_RX5.1, nc_RX5.2, pd_11⟩⟩
theorem mfX5_readStart : MF yX5_readStart cX5_readStart 1 (some .boolean) 0 := ⟨wt_454, wt_453, ws_11, wt_2, ⟨nc_RX5.1, nc_RX5.2, pd_11⟩⟩
theorem mfX5_readStretch : MF yX5_readStretch cX5_readStretch 2 (some .boolean) 0 := ⟨wt_471, wt_470, ws_15, wt_2, ⟨nc_RX5.1, nc_RX5.2, pd_11⟩⟩
theorem mfX5_readBearer : MF yX5_readBearer cX5_readBearer 3 (some .boolean) 0 := ⟨wt_480, wt_479, ws_17, wt_2, ⟨nc_RX5.1, nc_RX5.2, pd_11⟩⟩
theorem mfX5_readCarry : MF yX5_readCarry cX5_readCarry 3 (some .boolean) 0 := ⟨wt_499, wt_498, ws_20, wt_2, ⟨nc_RX5.1, nc_RX5.2, pd_11⟩⟩
theorem mfX5_kind : MF yX5_kind cX5_kind 1 (some .int) 0 := ⟨wt_484, wt_483, ws_18, wt_2, ⟨nc_RX5.1, nc_RX5.2, pd_13⟩⟩
theorem mfX5_nextNumber : MF yX5_nextNumber cX5_nextNumber 4 (some .boolean) 2 := ⟨wt_458, wt_457, ws_12, wt_2, ⟨nc_RX5.1, nc_RX5.2, pd_8⟩⟩
theorem mfX5_nextStop : MF yX5_nextStop cX5_nextStop 1 (some .boolean) 0 := ⟨wt_466, wt_465, ws_14, wt_2, ⟨nc_RX5.1, nc_RX5.2, pd_11⟩⟩
theorem mfX5_value : MF yX5_value cX5_value 3 (some .int) 0 := ⟨wt_462, wt_461, ws_13, wt_2, ⟨nc_RX5.1, nc_RX5.2, pd_13⟩⟩
theorem mfX5_lookBehindAll : MF yX5_lookBehindAll cX5_lookBehindAll 1 none 0 := ⟨wt_506, wt_505, ws_21, wt_2, ⟨nc_RX5.1, nc_RX5.2, pd_0⟩⟩
theorem mfX6_init : MFI yX6_init cX6_init 1 0 := ⟨wt_273, wt_272, wt_11, rfl, ⟨nc_RX6.1, nc_RX6.2, pd_0⟩⟩
theorem mfX6_isSheet : MFS yX6_isSheet cX6_isSheet 1 (some .boolean) 1 := ⟨wt_825, wt_824, wt_11, ⟨nc_RX6.1, nc_RX6.2, pd_14⟩⟩
theorem mfX6_isLane : MFS yX6_isLane cX6_isLane 1 (some .boolean) 1 := ⟨wt_828, wt_827, wt_11, ⟨nc_RX6.1, nc_RX6.2, pd_14⟩⟩
theorem mfX6_renew : MF yX6_renew cX6_renew 5 none 3 := ⟨wt_832, wt_831, ws_53, wt_11, ⟨nc_RX6.1, nc_RX6.2, pd_15⟩⟩
theorem mfX6_sizeOf : MF yX6_sizeOf cX6_sizeOf 2 (some .int) 1 := ⟨wt_867, wt_866, ws_57, wt_11, ⟨nc_RX6.1, nc_RX6.2, pd_16⟩⟩
theorem mfX6_faultAt : MF yX6_faultAt cX6_faultAt 4 (some .int) 2 := ⟨wt_841, wt_840, ws_54, wt_11, ⟨nc_RX6.1, nc_RX6.2, pd_17⟩⟩
theorem mfX6_fill : MF yX6_fill cX6_fill 4 none 3 := ⟨wt_845, wt_844, ws_55, wt_11, ⟨nc_RX6.1, nc_RX6.2, pd_15⟩⟩
theorem mfX6_takePairs : MF yX6_takePairs cX6_takePairs 8 none 4 := ⟨wt_854, wt_853, ws_56, wt_11, ⟨nc_RX6.1, nc_RX6.2, pd_4⟩⟩
theorem mfX7_init : MFI yX7_init cX7_init 1 0 := ⟨wt_38, wt_37, wt_3, rfl, ⟨nc_RX7.1, nc_RX7.2, pd_0⟩⟩
theorem mfX7_addBytes : MF yX7_addBytes cX7_addBytes 4 (some .boolean) 1 := ⟨wt_352, wt_351, ws_0, wt_3, ⟨nc_RX7.1, nc_RX7.2, pd_18⟩⟩
theorem mfX7_byteAt : MF yX7_byteAt cX7_byteAt 2 (some .int) 1 := ⟨wt_385, wt_384, ws_6, wt_3, ⟨nc_RX7.1, nc_RX7.2, pd_16⟩⟩
theorem mfX7_says : MF yX7_says cX7_says 5 (some .boolean) 3 := ⟨wt_402, wt_401, ws_10, wt_3, ⟨nc_RX7.1, nc_RX7.2, pd_19⟩⟩
theorem mfX7_pastAll : MF yX7_pastAll cX7_pastAll 5 (some .int) 3 := ⟨wt_381, wt_380, ws_5, wt_3, ⟨nc_RX7.1, nc_RX7.2, pd_20⟩⟩
theorem mfX8_init : MFI yX8_init cX8_init 1 0 := ⟨wt_255, wt_254, wt_10, rfl, ⟨nc_RX8.1, nc_RX8.2, pd_0⟩⟩
theorem mfX8_explore : MF yX8_explore cX8_explore 4 none 2 := ⟨wt_770, wt_769, ws_46, wt_10, ⟨nc_RX8.1, nc_RX8.2, pd_21⟩⟩
theorem mfX8_dropUnmarked : MFS yX8_dropUnmarked cX8_dropUnmarked 4 none 3 := ⟨wt_779, wt_778, wt_10, ⟨nc_RX8.1, nc_RX8.2, pd_22⟩⟩
theorem mfX8_leadInto : MF yX8_leadInto cX8_leadInto 4 none 2 := ⟨wt_775, wt_774, ws_47, wt_10, ⟨nc_RX8.1, nc_RX8.2, pd_23⟩⟩
theorem mfX8_leadOnward : MF yX8_leadOnward cX8_leadOnward 6 none 2 := ⟨wt_787, wt_786, ws_49, wt_10, ⟨nc_RX8.1, nc_RX8.2, pd_23⟩⟩
theorem mfX8_canBeBehind : MF yX8_canBeBehind cX8_canBeBehind 3 (some .boolean) 2 := ⟨wt_795, wt_794, ws_50, wt_10, ⟨nc_RX8.1, nc_RX8.2, pd_8⟩⟩
theorem mfX8_falling : MF yX8_falling cX8_falling 5 (some .int) 2 := ⟨wt_803, wt_802, ws_51, wt_10, ⟨nc_RX8.1, nc_RX8.2, pd_24⟩⟩
theorem mfX8_rising : MF yX8_rising cX8_rising 5 (some .int) 2 := ⟨wt_807, wt_806, ws_52, wt_10, ⟨nc_RX8.1, nc_RX8.2, pd_24⟩⟩
theorem mfX9_init : MFI yX9_init cX9_init 1 0 := ⟨wt_54, wt_53, wt_4, rfl, ⟨nc_RX9.1, nc_RX9.2, pd_0⟩⟩
theorem mfX9_clear : MF yX9_clear cX9_clear 2 none 0 := ⟨wt_373, wt_372, ws_3, wt_4, ⟨nc_RX9.1, nc_RX9.2, pd_0⟩⟩
theorem mfX9_copyOf : MF yX9_copyOf cX9_copyOf 2 none 1 := ⟨wt_510, wt_509, ws_22, wt_4, ⟨nc_RX9.1, nc_RX9.2, pd_25⟩⟩
theorem mfX9_hasStretch : MF yX9_hasStretch cX9_hasStretch 2 (some .boolean) 1 := ⟨wt_530, wt_529, ws_23, wt_4, ⟨nc_RX9.1, nc_RX9.2, pd_14⟩⟩
theorem mfX9_hasBearer : MF yX9_hasBearer cX9_hasBearer 2 (some .boolean) 1 := ⟨wt_538, wt_537, ws_24, wt_4, ⟨nc_RX9.1, nc_RX9.2, pd_14⟩⟩
theorem mfX9_addStretch : MF yX9_addStretch cX9_addStretch 3 none 2 := ⟨wt_475, wt_474, ws_16, wt_4, ⟨nc_RX9.1, nc_RX9.2, pd_23⟩⟩
theorem mfX9_addBearer : MF yX9_addBearer cX9_addBearer 4 none 3 := ⟨wt_494, wt_493, ws_19, wt_4, ⟨nc_RX9.1, nc_RX9.2, pd_15⟩⟩
theorem mfX9_canHand : MF yX9_canHand cX9_canHand 4 (some .boolean) 3 := ⟨wt_573, wt_572, ws_25, wt_4, ⟨nc_RX9.1, nc_RX9.2, pd_26⟩⟩
theorem mfX9_harmBy : MF yX9_harmBy cX9_harmBy 4 (some .int) 3 := ⟨wt_579, wt_578, ws_26, wt_4, ⟨nc_RX9.1, nc_RX9.2, pd_27⟩⟩
theorem mfX9_noiseBy : MF yX9_noiseBy cX9_noiseBy 4 (some .int) 2 := ⟨wt_584, wt_583, ws_27, wt_4, ⟨nc_RX9.1, nc_RX9.2, pd_1⟩⟩
theorem mfX9_coldBy : MF yX9_coldBy cX9_coldBy 4 (some .int) 2 := ⟨wt_589, wt_588, ws_28, wt_4, ⟨nc_RX9.1, nc_RX9.2, pd_1⟩⟩
theorem mfX9_joltBy : MF yX9_joltBy cX9_joltBy 4 (some .int) 2 := ⟨wt_593, wt_592, ws_29, wt_4, ⟨nc_RX9.1, nc_RX9.2, pd_1⟩⟩
theorem mfX9_harmInOrder : MF yX9_harmInOrder cX9_harmInOrder 2 (some .int) 1 := ⟨wt_628, wt_627, ws_34, wt_4, ⟨nc_RX9.1, nc_RX9.2, pd_16⟩⟩
theorem mfX9_exchange : MF yX9_exchange cX9_exchange 4 none 2 := ⟨wt_718, wt_717, ws_41, wt_4, ⟨nc_RX9.1, nc_RX9.2, pd_23⟩⟩
theorem mfX9_handOvers : MF yX9_handOvers cX9_handOvers 3 (some .int) 0 := ⟨wt_871, wt_870, ws_58, wt_4, ⟨nc_RX9.1, nc_RX9.2, pd_13⟩⟩
theorem mfX10_init : MFI yX10_init cX10_init 2 0 := ⟨wt_24, wt_23, wt_1, rfl, ⟨nc_RX10.1, nc_RX10.2, pd_0⟩⟩
theorem mfX10_feed : MF yX10_feed cX10_feed 3 (some .int) 1 := ⟨wt_348, wt_346, wt_347, wt_1, ⟨nc_RX10.1, nc_RX10.2, pd_28⟩⟩
theorem mfX10_end : MF yX10_end cX10_end 3 (some .int) 1 := ⟨wt_357, wt_355, wt_356, wt_1, ⟨nc_RX10.1, nc_RX10.2, pd_16⟩⟩
theorem mfX10_text : MF yX10_text cX10_text 2 (some .int) 0 := ⟨wt_361, wt_359, wt_360, wt_1, ⟨nc_RX10.1, nc_RX10.2, pd_13⟩⟩
theorem mfX10_fault : MF yX10_fault cX10_fault 1 (some .int) 0 := ⟨wt_518, wt_516, wt_517, wt_1, ⟨nc_RX10.1, nc_RX10.2, pd_13⟩⟩
theorem mfX10_rule : MF yX10_rule cX10_rule 2 (some .int) 1 := ⟨wt_522, wt_520, wt_521, wt_1, ⟨nc_RX10.1, nc_RX10.2, pd_16⟩⟩
theorem mfX10_stretch : MF yX10_stretch cX10_stretch 3 (some .int) 2 := ⟨wt_526, wt_524, wt_525, wt_1, ⟨nc_RX10.1, nc_RX10.2, pd_1⟩⟩
theorem mfX10_bearer : MF yX10_bearer cX10_bearer 3 (some .int) 2 := ⟨wt_534, wt_532, wt_533, wt_1, ⟨nc_RX10.1, nc_RX10.2, pd_1⟩⟩
theorem mfX10_start : MF yX10_start cX10_start 3 (some .int) 1 := ⟨wt_542, wt_540, wt_541, wt_1, ⟨nc_RX10.1, nc_RX10.2, pd_16⟩⟩
theorem mfX10_noise : MF yX10_noise cX10_noise 3 (some .int) 2 := ⟨wt_546, wt_544, wt_545, wt_1, ⟨nc_RX10.1, nc_RX10.2, pd_1⟩⟩
theorem mfX10_cold : MF yX10_cold cX10_cold 3 (some .int) 2 := ⟨wt_553, wt_551, wt_552, wt_1, ⟨nc_RX10.1, nc_RX10.2, pd_1⟩⟩
theorem mfX10_step : MF yX10_step cX10_step 3 (some .int) 2 := ⟨wt_557, wt_555, wt_556, wt_1, ⟨nc_RX10.1, nc_RX10.2, pd_1⟩⟩
theorem mfX10_warm : MF yX10_warm cX10_warm 3 (some .int) 2 := ⟨wt_561, wt_559, wt_560, wt_1, ⟨nc_RX10.1, nc_RX10.2, pd_1⟩⟩
theorem mfX10_put : MF yX10_put cX10_put 4 (some .int) 2 := ⟨wt_565, wt_563, wt_564, wt_1, ⟨nc_RX10.1, nc_RX10.2, pd_1⟩⟩
theorem mfX10_change : MFS yX10_change cX10_change 4 (some .int) 3 := ⟨wt_549, wt_548, wt_1, ⟨nc_RX10.1, nc_RX10.2, pd_29⟩⟩
theorem mfX10_harm : MF yX10_harm cX10_harm 4 (some .int) 3 := ⟨wt_569, wt_567, wt_568, wt_1, ⟨nc_RX10.1, nc_RX10.2, pd_27⟩⟩
theorem mfX10_wakes : MF yX10_wakes cX10_wakes 2 (some .long) 1 := ⟨wt_603, wt_601, wt_602, wt_1, ⟨nc_RX10.1, nc_RX10.2, pd_30⟩⟩
theorem mfX10_awake : MF yX10_awake cX10_awake 3 (some .long) 2 := ⟨wt_644, wt_642, wt_643, wt_1, ⟨nc_RX10.1, nc_RX10.2, pd_31⟩⟩
theorem mfX10_depth : MF yX10_depth cX10_depth 4 (some .long) 3 := ⟨wt_648, wt_646, wt_647, wt_1, ⟨nc_RX10.1, nc_RX10.2, pd_32⟩⟩
theorem mfX10_best : MF yX10_best cX10_best 2 (some .long) 1 := ⟨wt_656, wt_654, wt_655, wt_1, ⟨nc_RX10.1, nc_RX10.2, pd_30⟩⟩
theorem mfX10_next : MF yX10_next cX10_next 5 (some .int) 3 := ⟨wt_683, wt_681, wt_682, wt_1, ⟨nc_RX10.1, nc_RX10.2, pd_27⟩⟩
theorem mfX10_without : MF yX10_without cX10_without 3 (some .long) 2 := ⟨wt_688, wt_686, wt_687, wt_1, ⟨nc_RX10.1, nc_RX10.2, pd_31⟩⟩
theorem mfX10_quiet : MF yX10_quiet cX10_quiet 10 (some .long) 2 := ⟨wt_693, wt_691, wt_692, wt_1, ⟨nc_RX10.1, nc_RX10.2, pd_31⟩⟩
theorem mfX10_stopNoises : MF yX10_stopNoises cX10_stopNoises 3 none 1 := ⟨wt_706, wt_705, ws_40, wt_1, ⟨nc_RX10.1, nc_RX10.2, pd_10⟩⟩
theorem mfX10_drop : MF yX10_drop cX10_drop 8 (some .long) 1 := ⟨wt_710, wt_708, wt_709, wt_1, ⟨nc_RX10.1, nc_RX10.2, pd_30⟩⟩
theorem mfX10_swap : MF yX10_swap cX10_swap 9 (some .long) 1 := ⟨wt_714, wt_712, wt_713, wt_1, ⟨nc_RX10.1, nc_RX10.2, pd_30⟩⟩
theorem mfX10_carry : MF yX10_carry cX10_carry 3 (some .int) 2 := ⟨wt_722, wt_720, wt_721, wt_1, ⟨nc_RX10.1, nc_RX10.2, pd_1⟩⟩
theorem mfX10_learn : MF yX10_learn cX10_learn 5 (some .int) 4 := ⟨wt_733, wt_731, wt_732, wt_1, ⟨nc_RX10.1, nc_RX10.2, pd_33⟩⟩
theorem mfX10_forget : MF yX10_forget cX10_forget 3 (some .int) 1 := ⟨wt_741, wt_739, wt_740, wt_1, ⟨nc_RX10.1, nc_RX10.2, pd_16⟩⟩
theorem mfX10_steps : MF yX10_steps cX10_steps 7 (some .int) 2 := ⟨wt_745, wt_743, wt_744, wt_1, ⟨nc_RX10.1, nc_RX10.2, pd_1⟩⟩
theorem mfX10_mark : MF yX10_mark cX10_mark 3 (some .int) 2 := ⟨wt_754, wt_752, wt_753, wt_1, ⟨nc_RX10.1, nc_RX10.2, pd_1⟩⟩
theorem mfX10_wipe : MF yX10_wipe cX10_wipe 3 (some .int) 1 := ⟨wt_762, wt_760, wt_761, wt_1, ⟨nc_RX10.1, nc_RX10.2, pd_16⟩⟩
theorem mfX10_paths : MF yX10_paths cX10_paths 1 (some .int) 0 := ⟨wt_766, wt_764, wt_765, wt_1, ⟨nc_RX10.1, nc_RX10.2, pd_13⟩⟩
theorem mfX10_eye : MF yX10_eye cX10_eye 4 (some .int) 1 := ⟨wt_791, wt_789, wt_790, wt_1, ⟨nc_RX10.1, nc_RX10.2, pd_16⟩⟩
theorem mfX10_sure : MF yX10_sure cX10_sure 5 (some .int) 1 := ⟨wt_799, wt_797, wt_798, wt_1, ⟨nc_RX10.1, nc_RX10.2, pd_16⟩⟩
theorem mfX10_keep : MF yX10_keep cX10_keep 3 (some .int) 1 := ⟨wt_811, wt_809, wt_810, wt_1, ⟨nc_RX10.1, nc_RX10.2, pd_16⟩⟩
theorem mfX10_back : MF yX10_back cX10_back 2 (some .int) 1 := ⟨wt_818, wt_816, wt_817, wt_1, ⟨nc_RX10.1, nc_RX10.2, pd_16⟩⟩
theorem mfX10_sheet : MF yX10_sheet cX10_sheet 4 (some .int) 3 := ⟨wt_822, wt_820, wt_821, wt_1, ⟨nc_RX10.1, nc_RX10.2, pd_27⟩⟩
theorem mfX10_lay : MF yX10_lay cX10_lay 5 (some .int) 3 := ⟨wt_837, wt_835, wt_836, wt_1, ⟨nc_RX10.1, nc_RX10.2, pd_27⟩⟩
theorem mfX10_read : MF yX10_read cX10_read 6 (some .int) 4 := ⟨wt_850, wt_848, wt_849, wt_1, ⟨nc_RX10.1, nc_RX10.2, pd_33⟩⟩
theorem mfX10_torn : MF yX10_torn cX10_torn 1 (some .int) 0 := ⟨wt_859, wt_857, wt_858, wt_1, ⟨nc_RX10.1, nc_RX10.2, pd_13⟩⟩
theorem mfX10_count : MF yX10_count cX10_count 2 (some .int) 1 := ⟨wt_863, wt_861, wt_862, wt_1, ⟨nc_RX10.1, nc_RX10.2, pd_16⟩⟩
theorem mfX10_isFractionPart : MFS yX10_isFractionPart cX10_isFractionPart 1 (some .boolean) 1 := ⟨wt_606, wt_605, wt_1, ⟨nc_RX10.1, nc_RX10.2, pd_14⟩⟩
theorem mfX10_isAnswerPart : MFS yX10_isAnswerPart cX10_isAnswerPart 1 (some .boolean) 1 := ⟨wt_696, wt_695, wt_1, ⟨nc_RX10.1, nc_RX10.2, pd_14⟩⟩
theorem mfX10_isDepth : MFS yX10_isDepth cX10_isDepth 1 (some .boolean) 1 := ⟨wt_651, wt_650, wt_1, ⟨nc_RX10.1, nc_RX10.2, pd_14⟩⟩
theorem mfX10_isImage : MFS yX10_isImage cX10_isImage 1 (some .boolean) 1 := ⟨wt_814, wt_813, wt_1, ⟨nc_RX10.1, nc_RX10.2, pd_14⟩⟩
theorem mfX10_fraction : MFS yX10_fraction cX10_fraction 7 (some .long) 3 := ⟨wt_637, wt_636, wt_1, ⟨nc_RX10.1, nc_RX10.2, pd_34⟩⟩
theorem mfX10_commonDivisor : MFS yX10_commonDivisor cX10_commonDivisor 11 (some .long) 2 := ⟨wt_640, wt_639, wt_1, ⟨nc_RX10.1, nc_RX10.2, pd_35⟩⟩
theorem mfX11_init : MFI yX11_init cX11_init 1 0 := ⟨wt_876, wt_875, wt_12, rfl, ⟨nc_RX11.1, nc_RX11.2, pd_0⟩⟩
theorem mfX11_in : MFS yX11_in cX11_in 6 (some .boolean) 3 := ⟨wt_994, wt_993, wt_12, ⟨nc_RX11.1, nc_RX11.2, pd_36⟩⟩
theorem mfX11_feed : MF yX11_feed cX11_feed 4 (some .int) 1 := ⟨wt_987, wt_985, wt_986, wt_12, ⟨nc_RX11.1, nc_RX11.2, pd_28⟩⟩
theorem mfX11_end : MF yX11_end cX11_end 3 (some .int) 1 := ⟨wt_991, wt_989, wt_990, wt_12, ⟨nc_RX11.1, nc_RX11.2, pd_16⟩⟩
theorem mfX11_byteAt : MF yX11_byteAt cX11_byteAt 2 (some .int) 1 := ⟨wt_1006, wt_1005, ws_60, wt_12, ⟨nc_RX11.1, nc_RX11.2, pd_16⟩⟩
theorem mfX11_fails : MF yX11_fails cX11_fails 2 none 1 := ⟨wt_1014, wt_1013, ws_61, wt_12, ⟨nc_RX11.1, nc_RX11.2, pd_10⟩⟩
theorem mfX11_nameHere : MF yX11_nameHere cX11_nameHere 4 (some .int) 0 := ⟨wt_1022, wt_1021, ws_63, wt_12, ⟨nc_RX11.1, nc_RX11.2, pd_13⟩⟩
theorem mfX11_goesOn : MF yX11_goesOn cX11_goesOn 2 none 0 := ⟨wt_1002, wt_1001, ws_59, wt_12, ⟨nc_RX11.1, nc_RX11.2, pd_0⟩⟩
theorem mfX11_other : MF yX11_other cX11_other 5 (some .int) 3 := ⟨wt_1031, wt_1030, ws_65, wt_12, ⟨nc_RX11.1, nc_RX11.2, pd_27⟩⟩
theorem mfX11_readBearer : MF yX11_readBearer cX11_readBearer 3 none 0 := ⟨wt_1027, wt_1026, ws_64, wt_12, ⟨nc_RX11.1, nc_RX11.2, pd_0⟩⟩
theorem mfX11_readMore : MF yX11_readMore cX11_readMore 4 none 1 := ⟨wt_1035, wt_1034, ws_66, wt_12, ⟨nc_RX11.1, nc_RX11.2, pd_10⟩⟩
theorem mfX11_readLine : MF yX11_readLine cX11_readLine 2 none 0 := ⟨wt_1018, wt_1017, ws_62, wt_12, ⟨nc_RX11.1, nc_RX11.2, pd_0⟩⟩
theorem mfX11_text : MF yX11_text cX11_text 3 (some .int) 0 := ⟨wt_998, wt_996, wt_997, wt_12, ⟨nc_RX11.1, nc_RX11.2, pd_13⟩⟩
theorem mfX11_fault : MF yX11_fault cX11_fault 1 (some .int) 0 := ⟨wt_1039, wt_1037, wt_1038, wt_12, ⟨nc_RX11.1, nc_RX11.2, pd_13⟩⟩
theorem mfX11_isStretch : MF yX11_isStretch cX11_isStretch 2 (some .boolean) 1 := ⟨wt_1055, wt_1054, ws_68, wt_12, ⟨nc_RX11.1, nc_RX11.2, pd_14⟩⟩
theorem mfX11_isBearer : MF yX11_isBearer cX11_isBearer 2 (some .boolean) 1 := ⟨wt_1064, wt_1063, ws_69, wt_12, ⟨nc_RX11.1, nc_RX11.2, pd_14⟩⟩
theorem mfX11_startNow : MF yX11_startNow cX11_startNow 1 (some .int) 0 := ⟨wt_1047, wt_1046, ws_67, wt_12, ⟨nc_RX11.1, nc_RX11.2, pd_13⟩⟩
theorem mfX11_rule : MF yX11_rule cX11_rule 2 (some .int) 1 := ⟨wt_1043, wt_1041, wt_1042, wt_12, ⟨nc_RX11.1, nc_RX11.2, pd_16⟩⟩
theorem mfX11_stretch : MF yX11_stretch cX11_stretch 3 (some .int) 2 := ⟨wt_1051, wt_1049, wt_1050, wt_12, ⟨nc_RX11.1, nc_RX11.2, pd_1⟩⟩
theorem mfX11_bearer : MF yX11_bearer cX11_bearer 3 (some .int) 2 := ⟨wt_1060, wt_1058, wt_1059, wt_12, ⟨nc_RX11.1, nc_RX11.2, pd_1⟩⟩
theorem mfX11_sets : MF yX11_sets cX11_sets 5 (some .int) 3 := ⟨wt_1073, wt_1072, ws_70, wt_12, ⟨nc_RX11.1, nc_RX11.2, pd_37⟩⟩
theorem mfX11_start : MF yX11_start cX11_start 2 (some .int) 1 := ⟨wt_1068, wt_1066, wt_1067, wt_12, ⟨nc_RX11.1, nc_RX11.2, pd_16⟩⟩
theorem mfX11_noise : MF yX11_noise cX11_noise 3 (some .int) 2 := ⟨wt_1077, wt_1075, wt_1076, wt_12, ⟨nc_RX11.1, nc_RX11.2, pd_1⟩⟩
theorem mfX11_cold : MF yX11_cold cX11_cold 3 (some .int) 2 := ⟨wt_1081, wt_1079, wt_1080, wt_12, ⟨nc_RX11.1, nc_RX11.2, pd_1⟩⟩
theorem mfX11_step : MF yX11_step cX11_step 3 (some .int) 2 := ⟨wt_1085, wt_1083, wt_1084, wt_12, ⟨nc_RX11.1, nc_RX11.2, pd_1⟩⟩
theorem mfX11_warm : MF yX11_warm cX11_warm 3 (some .int) 2 := ⟨wt_1089, wt_1087, wt_1088, wt_12, ⟨nc_RX11.1, nc_RX11.2, pd_1⟩⟩
theorem mfX11_puts : MF yX11_puts cX11_puts 3 (some .int) 2 := ⟨wt_1097, wt_1096, ws_71, wt_12, ⟨nc_RX11.1, nc_RX11.2, pd_1⟩⟩
theorem mfX11_put : MF yX11_put cX11_put 3 (some .int) 2 := ⟨wt_1093, wt_1091, wt_1092, wt_12, ⟨nc_RX11.1, nc_RX11.2, pd_1⟩⟩
theorem mfX11_kindOf : MF yX11_kindOf cX11_kindOf 2 (some .int) 1 := ⟨wt_1113, wt_1112, ws_74, wt_12, ⟨nc_RX11.1, nc_RX11.2, pd_16⟩⟩
theorem mfX11_harmOf : MF yX11_harmOf cX11_harmOf 10 (some .int) 4 := ⟨wt_1109, wt_1108, ws_73, wt_12, ⟨nc_RX11.1, nc_RX11.2, pd_38⟩⟩
theorem mfX11_canHarm : MF yX11_canHarm cX11_canHarm 4 (some .boolean) 3 := ⟨wt_1105, wt_1104, ws_72, wt_12, ⟨nc_RX11.1, nc_RX11.2, pd_26⟩⟩
theorem mfX11_harm : MF yX11_harm cX11_harm 4 (some .int) 3 := ⟨wt_1101, wt_1099, wt_1100, wt_12, ⟨nc_RX11.1, nc_RX11.2, pd_27⟩⟩
theorem mfX11_orderedHarm : MF yX11_orderedHarm cX11_orderedHarm 3 (some .int) 2 := ⟨wt_1126, wt_1125, ws_76, wt_12, ⟨nc_RX11.1, nc_RX11.2, pd_39⟩⟩
theorem mfX11_power : MFS yX11_power cX11_power 4 (some .long) 1 := ⟨wt_1133, wt_1132, wt_12, ⟨nc_RX11.1, nc_RX11.2, pd_30⟩⟩
theorem mfX11_deeper : MFS yX11_deeper cX11_deeper 2 (some .int) 2 := ⟨wt_1130, wt_1129, wt_12, ⟨nc_RX11.1, nc_RX11.2, pd_1⟩⟩
theorem mfX11_layOdds : MF yX11_layOdds cX11_layOdds 8 none 3 := ⟨wt_1122, wt_1121, ws_75, wt_12, ⟨nc_RX11.1, nc_RX11.2, pd_15⟩⟩
theorem mfX11_lowest : MFS yX11_lowest cX11_lowest 11 (some .long) 3 := ⟨wt_1136, wt_1135, wt_12, ⟨nc_RX11.1, nc_RX11.2, pd_34⟩⟩
theorem mfX11_wakes : MF yX11_wakes cX11_wakes 2 (some .long) 1 := ⟨wt_1117, wt_1115, wt_1116, wt_12, ⟨nc_RX11.1, nc_RX11.2, pd_30⟩⟩
theorem mfX11_awake : MF yX11_awake cX11_awake 3 (some .long) 2 := ⟨wt_1140, wt_1138, wt_1139, wt_12, ⟨nc_RX11.1, nc_RX11.2, pd_31⟩⟩
theorem mfX11_depth : MF yX11_depth cX11_depth 4 (some .long) 3 := ⟨wt_1144, wt_1142, wt_1143, wt_12, ⟨nc_RX11.1, nc_RX11.2, pd_32⟩⟩
theorem mfX11_bestAt : MFS yX11_bestAt cX11_bestAt 3 (some .int) 3 := ⟨wt_1161, wt_1160, wt_12, ⟨nc_RX11.1, nc_RX11.2, pd_27⟩⟩
theorem mfX11_byOne : MF yX11_byOne cX11_byOne 6 (some .long) 4 := ⟨wt_1158, wt_1157, ws_78, wt_12, ⟨nc_RX11.1, nc_RX11.2, pd_40⟩⟩
theorem mfX11_layBest : MF yX11_layBest cX11_layBest 8 none 1 := ⟨wt_1153, wt_1152, ws_77, wt_12, ⟨nc_RX11.1, nc_RX11.2, pd_10⟩⟩
theorem mfX11_best : MF yX11_best cX11_best 2 (some .long) 1 := ⟨wt_1149, wt_1147, wt_1148, wt_12, ⟨nc_RX11.1, nc_RX11.2, pd_30⟩⟩
theorem mfX11_next : MF yX11_next cX11_next 5 (some .int) 3 := ⟨wt_1165, wt_1163, wt_1164, wt_12, ⟨nc_RX11.1, nc_RX11.2, pd_27⟩⟩
theorem mfX11_without : MF yX11_without cX11_without 3 (some .long) 2 := ⟨wt_1169, wt_1167, wt_1168, wt_12, ⟨nc_RX11.1, nc_RX11.2, pd_31⟩⟩
theorem mfX11_bitsOf : MFS yX11_bitsOf cX11_bitsOf 3 (some .int) 1 := ⟨wt_1178, wt_1177, wt_12, ⟨nc_RX11.1, nc_RX11.2, pd_16⟩⟩
theorem mfX11_quiet : MF yX11_quiet cX11_quiet 7 (some .long) 2 := ⟨wt_1174, wt_1172, wt_1173, wt_12, ⟨nc_RX11.1, nc_RX11.2, pd_31⟩⟩
theorem mfX11_drop : MF yX11_drop cX11_drop 6 (some .long) 1 := ⟨wt_1182, wt_1180, wt_1181, wt_12, ⟨nc_RX11.1, nc_RX11.2, pd_30⟩⟩
theorem mfX11_changes : MF yX11_changes cX11_changes 4 none 2 := ⟨wt_1190, wt_1189, ws_79, wt_12, ⟨nc_RX11.1, nc_RX11.2, pd_23⟩⟩
theorem mfX11_swap : MF yX11_swap cX11_swap 7 (some .long) 1 := ⟨wt_1186, wt_1184, wt_1185, wt_12, ⟨nc_RX11.1, nc_RX11.2, pd_30⟩⟩
theorem mfX11_carry : MF yX11_carry cX11_carry 9 (some .int) 2 := ⟨wt_1194, wt_1192, wt_1193, wt_12, ⟨nc_RX11.1, nc_RX11.2, pd_1⟩⟩
theorem mfX11_learn : MF yX11_learn cX11_learn 6 (some .int) 4 := ⟨wt_1199, wt_1197, wt_1198, wt_12, ⟨nc_RX11.1, nc_RX11.2, pd_33⟩⟩
theorem mfX11_forget : MF yX11_forget cX11_forget 3 (some .int) 1 := ⟨wt_1203, wt_1201, wt_1202, wt_12, ⟨nc_RX11.1, nc_RX11.2, pd_16⟩⟩
theorem mfX11_steps : MF yX11_steps cX11_steps 11 (some .int) 2 := ⟨wt_1207, wt_1205, wt_1206, wt_12, ⟨nc_RX11.1, nc_RX11.2, pd_1⟩⟩
theorem mfX11_mark : MF yX11_mark cX11_mark 3 (some .int) 2 := ⟨wt_1211, wt_1209, wt_1210, wt_12, ⟨nc_RX11.1, nc_RX11.2, pd_1⟩⟩
theorem mfX11_wipe : MF yX11_wipe cX11_wipe 3 (some .int) 1 := ⟨wt_1215, wt_1213, wt_1214, wt_12, ⟨nc_RX11.1, nc_RX11.2, pd_16⟩⟩
theorem mfX11_isMarked : MF yX11_isMarked cX11_isMarked 5 (some .boolean) 2 := ⟨wt_1231, wt_1230, ws_82, wt_12, ⟨nc_RX11.1, nc_RX11.2, pd_8⟩⟩
theorem mfX11_depthThen : MF yX11_depthThen cX11_depthThen 6 (some .int) 3 := ⟨wt_1227, wt_1226, ws_81, wt_12, ⟨nc_RX11.1, nc_RX11.2, pd_41⟩⟩
theorem mfX11_layPaths : MF yX11_layPaths cX11_layPaths 6 none 0 := ⟨wt_1223, wt_1222, ws_80, wt_12, ⟨nc_RX11.1, nc_RX11.2, pd_0⟩⟩
theorem mfX11_onward : MF yX11_onward cX11_onward 5 (some .int) 3 := ⟨wt_1235, wt_1234, ws_83, wt_12, ⟨nc_RX11.1, nc_RX11.2, pd_41⟩⟩
theorem mfX11_paths : MF yX11_paths cX11_paths 1 (some .int) 0 := ⟨wt_1219, wt_1217, wt_1218, wt_12, ⟨nc_RX11.1, nc_RX11.2, pd_13⟩⟩
theorem mfX11_eye : MF yX11_eye cX11_eye 4 (some .int) 1 := ⟨wt_1239, wt_1237, wt_1238, wt_12, ⟨nc_RX11.1, nc_RX11.2, pd_16⟩⟩
theorem mfX11_sure : MF yX11_sure cX11_sure 7 (some .int) 1 := ⟨wt_1243, wt_1241, wt_1242, wt_12, ⟨nc_RX11.1, nc_RX11.2, pd_16⟩⟩
theorem mfX11_copies : MF yX11_copies cX11_copies 4 none 2 := ⟨wt_1251, wt_1250, ws_84, wt_12, ⟨nc_RX11.1, nc_RX11.2, pd_23⟩⟩
theorem mfX11_keep : MF yX11_keep cX11_keep 3 (some .int) 1 := ⟨wt_1247, wt_1245, wt_1246, wt_12, ⟨nc_RX11.1, nc_RX11.2, pd_16⟩⟩
theorem mfX11_back : MF yX11_back cX11_back 2 (some .int) 1 := ⟨wt_1255, wt_1253, wt_1254, wt_12, ⟨nc_RX11.1, nc_RX11.2, pd_16⟩⟩
theorem mfX11_sheet : MF yX11_sheet cX11_sheet 5 (some .int) 3 := ⟨wt_1259, wt_1257, wt_1258, wt_12, ⟨nc_RX11.1, nc_RX11.2, pd_27⟩⟩
theorem mfX11_lay : MF yX11_lay cX11_lay 4 (some .int) 3 := ⟨wt_1263, wt_1261, wt_1262, wt_12, ⟨nc_RX11.1, nc_RX11.2, pd_27⟩⟩
theorem mfX11_read : MF yX11_read cX11_read 9 (some .int) 4 := ⟨wt_1267, wt_1265, wt_1266, wt_12, ⟨nc_RX11.1, nc_RX11.2, pd_33⟩⟩
theorem mfX11_torn : MF yX11_torn cX11_torn 1 (some .int) 0 := ⟨wt_1271, wt_1269, wt_1270, wt_12, ⟨nc_RX11.1, nc_RX11.2, pd_13⟩⟩
theorem mfX11_count : MF yX11_count cX11_count 4 (some .int) 1 := ⟨wt_1275, wt_1273, wt_1274, wt_12, ⟨nc_RX11.1, nc_RX11.2, pd_16⟩⟩
theorem mfJ6_bitCount_0f7a4 : MFS yJ6_bitCount_0f7a4 cJ6_bitCount_0f7a4 1 (some .int) 1 := ⟨wt_699, wt_698, wt_19, ⟨nc_RJ6.1, nc_RJ6.2, pd_16⟩⟩
theorem mfJ9_abs_0f7a4 : MFS yJ9_abs_0f7a4 cJ9_abs_0f7a4 1 (some .int) 1 := ⟨wt_596, wt_595, wt_17, ⟨nc_RJ9.1, nc_RJ9.2, pd_16⟩⟩
theorem mfJ9_max_7cf53 : MFS yJ9_max_7cf53 cJ9_max_7cf53 2 (some .int) 2 := ⟨wt_502, wt_501, wt_17, ⟨nc_RJ9.1, nc_RJ9.2, pd_1⟩⟩
theorem mfJ9_min_7cf53 : MFS yJ9_min_7cf53 cJ9_min_7cf53 2 (some .int) 2 := ⟨wt_599, wt_598, wt_17, ⟨nc_RJ9.1, nc_RJ9.2, pd_1⟩⟩
theorem mfJ0_length_8abf5 : MF yJ0_length_8abf5 cJ0_length_8abf5 1 (some .int) 0 := ⟨wt_406, wt_404, wt_405, wt_13, ⟨nc_RJ0.1, nc_RJ0.2, pd_13⟩⟩
theorem mfJ0_charAt_5068e : MF yJ0_charAt_5068e cJ0_charAt_5068e 2 (some .char) 1 := ⟨wt_416, wt_414, wt_415, wt_13, ⟨nc_RJ0.1, nc_RJ0.2, pd_42⟩⟩
theorem mfJ0_coder_7d493 : MF yJ0_coder_7d493 cJ0_coder_7d493 1 (some .byte) 0 := ⟨wt_410, wt_408, wt_409, wt_13, ⟨nc_RJ0.1, nc_RJ0.2, pd_43⟩⟩
theorem mfJ0_isLatin1_aae02 : MF yJ0_isLatin1_aae02 cJ0_isLatin1_aae02 1 (some .boolean) 0 := ⟨wt_420, wt_418, wt_419, wt_13, ⟨nc_RJ0.1, nc_RJ0.2, pd_11⟩⟩
theorem mfJ0_checkIndex_df160 : MFS yJ0_checkIndex_df160 cJ0_checkIndex_df160 2 none 2 := ⟨wt_426, wt_425, wt_13, ⟨nc_RJ0.1, nc_RJ0.2, pd_23⟩⟩
theorem mfJ1_charAt_3b067 : MFS yJ1_charAt_3b067 cJ1_charAt_3b067 2 (some .char) 2 := ⟨wt_423, wt_422, wt_14, ⟨nc_RJ1.1, nc_RJ1.2, pd_44⟩⟩
theorem mfJ3_checkIndex_8e157 : MFS yJ3_checkIndex_8e157 cJ3_checkIndex_8e157 3 (some .int) 3 := ⟨wt_431, wt_430, wt_15, ⟨nc_RJ3.1, nc_RJ3.2, pd_47⟩⟩

theorem va_nilP {D : va_G} {cl : List vw_C} {H : Heap} : va_P D cl [] H := fun k q h => by simp at h
theorem va_nilD {A : Nat → Prop} : va_D A [] := ⟨fun i j x y h => by simp at h, fun k q h => by simp at h⟩
theorem if10_p {P : Prop} [Decidable P] (h : ¬ (if P then (1 : Int32) else 0) = 0) : P := by
  by_cases q : P
  · exact q
  · rw [if_neg q] at h; exact absurd rfl h
theorem if10_n {P : Prop} [Decidable P] (h : (if P then (1 : Int32) else 0) = 0) : ¬ P := by
  intro q
  rw [if_pos q] at h
  exact absurd h (by decide)
theorem lcm_ge_t {x y : Int64} (h : 0 ≤ lg_cmp x y) : y.toInt ≤ x.toInt := leL ((lg_cmp_ge x y).mp h)
theorem lcm_ge_f {x y : Int64} (h : ¬ 0 ≤ lg_cmp x y) : ¬ y.toInt ≤ x.toInt := nleL (fun q => h ((lg_cmp_ge x y).mpr q))
theorem lcm_gt_t {x y : Int64} (h : 0 < lg_cmp x y) : y.toInt < x.toInt := ltL ((lg_cmp_gt x y).mp h)
theorem lcm_gt_f {x y : Int64} (h : ¬ 0 < lg_cmp x y) : ¬ y.toInt < x.toInt := nltL (fun q => h ((lg_cmp_gt x y).mpr q))
theorem lcm_lt_t {x y : Int64} (h : lg_cmp x y < 0) : x.toInt < y.toInt := ltL ((lg_cmp_lt x y).mp h)
theorem lcm_lt_f {x y : Int64} (h : ¬ lg_cmp x y < 0) : ¬ x.toInt < y.toInt := nltL (fun q => h ((lg_cmp_lt x y).mpr q))
theorem lcm_eq_t {x y : Int64} (h : lg_cmp x y = 0) : x.toInt = y.toInt := congrArg Int64.toInt ((lg_cmp_eq x y).mp h)
theorem lcm_eq_f {x y : Int64} (h : ¬ lg_cmp x y = 0) : ¬ x.toInt = y.toInt := fun q => h ((lg_cmp_eq x y).mpr (Int64.toInt_inj.mp q))
theorem lcm_ne_t {x y : Int64} (h : ¬ lg_cmp x y = 0) : ¬ x.toInt = y.toInt := lcm_eq_f h
theorem lcm_ne_f {x y : Int64} (h : lg_cmp x y = 0) : x.toInt = y.toInt := lcm_eq_t h
theorem l_ii (x : Int32) : x.toInt64.toInt = x.toInt := Int32.toInt_toInt64 x
theorem innI (c : ClassId) (K : Nat) : Jvm.Free.Multi.innerC c K (defaultValue .int) = vp_cell c (K, .inl (fun _ => 0)) := by
  have e : (Array.replicate K (defaultValue .int)) = Array.ofFn (n := K) (fun _ => defaultValue .int) := by
    apply Array.ext
    · simp
    · intro i h1 h2; simp
  show ({ cls := c, slots := Array.replicate K (defaultValue .int), vm := .none } : Cell) = { cls := c, slots := Array.ofFn (n := K) (fun _ => defaultValue .int), vm := .none }
  rw [e]
theorem innL (c : ClassId) (K : Nat) : Jvm.Free.Multi.innerC c K (defaultValue .long) = vp_cell c (K, .inr (.inl (fun _ => 0))) := by
  have e : (Array.replicate K (defaultValue .long)) = Array.ofFn (n := K) (fun _ => defaultValue .long) := by
    apply Array.ext
    · simp
    · intro i h1 h2; simp
  show ({ cls := c, slots := Array.replicate K (defaultValue .long), vm := .none } : Cell) = { cls := c, slots := Array.ofFn (n := K) (fun _ => defaultValue .long), vm := .none }
  rw [e]
section VGN
variable {p : Program} {l : Launch} {e : Env} {R : Room} {s : State} {m : MethodId} {args : Array Value} {below : List Frame} {meth : Method} {c : Code} {H : Heap} {locs : List Loc} {cells slots : Nat} {Q : State → Prop}
variable {cc : ByteArray} {pc : Nat} {ls : Array Slot} {rest : List Value} {D : va_G} {cl : List vw_C} {A : Nat → Prop} {a : Nat} {tys : List (ClassId × FieldType)} {ws : va_W} {H0 : Heap}
theorem va_aldA (hexec : p.tables.exec = Jvm.exec) (hb : c.code = cc) (hK : va_K D cl tys s) (hP : va_P D cl ws H) (q0 t0 : Nat) {cA : ClassId} {ty : FieldType} {n : Nat} {f : Nat → Option Nat} (ha : ws[q0]? = some (a, .inl (cA, n, .inr (.inr (.inr (.inr f)))))) (ht : tys[t0]? = some (cA, .array ty)) {i : Int32} (hin : vp_in i n) (hdg : decode cc pc = .ok (.aaload, 1))
    (kk : W p l e R s m args below meth c H locs cells slots Q (F0 m (pc + 1) ls (va_rf (f i.toNatClampNeg) :: rest))) : W p l e R s m args below meth c H locs cells slots Q (F0 m pc ls (.int i :: .ref a :: rest)) := by
  have hlt : i.toNatClampNeg < n := Nat.not_le.mp fun q => hin (Or.inr q)
  exact W.aald (v := va_rf (f i.toNatClampNeg)) (ty := .array ty) hexec hb (hP q0 _ ha) ((hK.2 t0 _ ht).1 n (fun j => va_rf (f j))) rfl (fun q => by cases q) (by show ¬ (i < 0 ∨ (arrV _ _ _).slots.size ≤ _); rw [arrV_size]; exact hin) (by show (arrV _ _ _).slots[_]? = _; rw [arrV_read _ _ hlt]) rfl rfl hdg kk
theorem va_mnL {index : Nat} {own nm : String} {ty : FieldType} {cy : ClassId} (hexec : p.tables.exec = Jvm.exec) (hb : c.code = cc) (hown : s.vm.findClass own = some m.cls) (hclink : (Cond.classLink own index nm).before args s = true) (hnm : "[" ++ (FieldType.array ty).toString = nm) (hover : va_AOA ty s) (harr : (Cond.arrayClass ty).before args s = true) (hcy : s.vm.findClass (FieldType.array ty).toString = some cy)
    (hK : va_K D cl tys s) (hP : va_P D cl ws H) (hD : va_D A ws) (hS : va_S A H0 H locs) (hA : ∀ q, H0.size ≤ q → A q) {n k : Int32} {N' K' : Nat} {z : vp_A} (hn : ¬ n < 0) (hk : ¬ k < 0) (hN : n.toNatClampNeg = N') (hM : k.toNatClampNeg = K')
    (hb1 : N' * 4 ≤ 536870912) (hb2 : K' * componentBytes ty ≤ 536870912) (hb3 : K' ≤ 536870912) (hdf : fits ty (defaultValue ty) = true) (hdd : (defaultValue ty).isDefault = true) (hcells : cells + (1 + N') ≤ R.cells) (hslots : slots + (N' + N' * K') ≤ R.slots) (hz : ∀ c : ClassId, Jvm.Free.Multi.innerC c K' (defaultValue ty) = vp_cell c z) (hdg : decode cc pc = .ok (.multianewarray index 2, 4))
    (kk : ∀ (q : Nat) (r : Nat → Nat) (cA : ClassId) (H1 : Heap), va_K D cl (tys ++ [(cA, .array ty)]) s →
      va_P D cl ((ws ++ [(q, .inl (cA, N', .inr (.inr (.inr (.inr (fun i => if i < N' then some (r i) else none))))))]) ++ (List.range N').map (fun i => (r i, .inl (cy, z)))) H1 → va_D A ((ws ++ [(q, .inl (cA, N', .inr (.inr (.inr (.inr (fun i => if i < N' then some (r i) else none))))))]) ++ (List.range N').map (fun i => (r i, .inl (cy, z)))) → va_S A H0 H1 locs →
      W p l e R s m args below meth c H1 locs (cells + 1 + N') (slots + N' + N' * K') Q (F0 m (pc + 4) ls (.ref q :: rest))) : W p l e R s m args below meth c H locs cells slots Q (F0 m pc ls (.int k :: .int n :: rest)) := by
  have e0 : ws ++ va_pl [] (fun _ => (.inl (cy, z) : va_E)) = ws := by simp [va_pl]
  refine va_mna (X := ws) (L := []) (f := fun _ => .inl (cy, z)) hexec hb hown (by rw [hnm]; exact hclink) hover harr hcy hK (by rw [e0]; exact hP) (by rw [e0]; exact hD) hS hA hn hk hN hM hb1 hb2 hb3 hdf hdd hcells hslots hz hdg (fun q r cA H1 _ _ hK1 hP1 hD1 hS1 => ?_)
  have e1 : va_pl ([] ++ (List.range N').map r) (vr_up (fun _ => (.inl (cy, z) : va_E)) ((List.range N').map r) (.inl (cy, z))) = (List.range N').map (fun i => (r i, .inl (cy, z))) := by
    simp [va_pl, vr_up]
  rw [e1] at hP1 hD1
  exact kk q r cA H1 hK1 hP1 hD1 hS1
end VGN
theorem nwX0 : ∀ j, j < 3 → defaultValue (tyX0 j) = vp_V [.long 0, .null, .null] j := by
  intro j hj
  match j, hj with
  | 0, _ => rfl
  | 1, _ => rfl
  | 2, _ => rfl
  | k + 3, h => exact absurd h (by omega)
theorem nwX1 : ∀ j, j < 3 → defaultValue (tyX1 j) = vp_V [.int 0, .int 0, .int 0] j := by
  intro j hj
  match j, hj with
  | 0, _ => rfl
  | 1, _ => rfl
  | 2, _ => rfl
  | k + 3, h => exact absurd h (by omega)
theorem nwX2 : ∀ j, j < 5 → defaultValue (tyX2 j) = vp_V [.int 0, .null, .null, .null, .null] j := by
  intro j hj
  match j, hj with
  | 0, _ => rfl
  | 1, _ => rfl
  | 2, _ => rfl
  | 3, _ => rfl
  | 4, _ => rfl
  | k + 5, h => exact absurd h (by omega)
theorem nwX3 : ∀ j, j < 3 → defaultValue (tyX3 j) = vp_V [.int 0, .null, .null] j := by
  intro j hj
  match j, hj with
  | 0, _ => rfl
  | 1, _ => rfl
  | 2, _ => rfl
  | k + 3, h => exact absurd h (by omega)
theorem nwX4 : ∀ j, j < 3 → defaultValue (tyX4 j) = vp_V [.long 0, .null, .null] j := by
  intro j hj
  match j, hj with
  | 0, _ => rfl
  | 1, _ => rfl
  | 2, _ => rfl
  | k + 3, h => exact absurd h (by omega)
theorem nwX5 : ∀ j, j < 12 → defaultValue (tyX5 j) = vp_V [.null, .null, .int 0, .int 0, .int 0, .int 0, .int 0, .int 0, .int 0, .int 0, .int 0, .int 0] j := by
  intro j hj
  match j, hj with
  | 0, _ => rfl
  | 1, _ => rfl
  | 2, _ => rfl
  | 3, _ => rfl
  | 4, _ => rfl
  | 5, _ => rfl
  | 6, _ => rfl
  | 7, _ => rfl
  | 8, _ => rfl
  | 9, _ => rfl
  | 10, _ => rfl
  | 11, _ => rfl
  | k + 12, h => exact absurd h (by omega)
theorem nwX6 : ∀ j, j < 7 → defaultValue (tyX6 j) = vp_V [.null, .null, .null, .int 0, .int 0, .null, .null] j := by
  intro j hj
  match j, hj with
  | 0, _ => rfl
  | 1, _ => rfl
  | 2, _ => rfl
  | 3, _ => rfl
  | 4, _ => rfl
  | 5, _ => rfl
  | 6, _ => rfl
  | k + 7, h => exact absurd h (by omega)
theorem nwX7 : ∀ j, j < 2 → defaultValue (tyX7 j) = vp_V [.int 0, .null] j := by
  intro j hj
  match j, hj with
  | 0, _ => rfl
  | 1, _ => rfl
  | k + 2, h => exact absurd h (by omega)
theorem nwX8 : ∀ j, j < 3 → defaultValue (tyX8 j) = vp_V [.int 0, .null, .null] j := by
  intro j hj
  match j, hj with
  | 0, _ => rfl
  | 1, _ => rfl
  | 2, _ => rfl
  | k + 3, h => exact absurd h (by omega)
theorem nwX9 : ∀ j, j < 9 → defaultValue (tyX9 j) = vp_V [.int 0, .int 0, .int 0, .null, .null, .null, .null, .null, .null] j := by
  intro j hj
  match j, hj with
  | 0, _ => rfl
  | 1, _ => rfl
  | 2, _ => rfl
  | 3, _ => rfl
  | 4, _ => rfl
  | 5, _ => rfl
  | 6, _ => rfl
  | 7, _ => rfl
  | 8, _ => rfl
  | k + 9, h => exact absurd h (by omega)
theorem nwX10 : ∀ j, j < 14 → defaultValue (tyX10 j) = vp_V [.null, .null, .null, .null, .null, .null, .null, .null, .null, .null, .null, .null, .int 0, .int 0] j := by
  intro j hj
  match j, hj with
  | 0, _ => rfl
  | 1, _ => rfl
  | 2, _ => rfl
  | 3, _ => rfl
  | 4, _ => rfl
  | 5, _ => rfl
  | 6, _ => rfl
  | 7, _ => rfl
  | 8, _ => rfl
  | 9, _ => rfl
  | 10, _ => rfl
  | 11, _ => rfl
  | 12, _ => rfl
  | 13, _ => rfl
  | k + 14, h => exact absurd h (by omega)
theorem nwX11 : ∀ j, j < 35 → defaultValue (tyX11 j) = vp_V [.null, .int 0, .int 0, .null, .int 0, .int 0, .int 0, .int 0, .int 0, .int 0, .null, .int 0, .int 0, .int 0, .int 0, .int 0, .int 0, .int 0, .int 0, .null, .null, .null, .null, .null, .null, .int 0, .null, .int 0, .null, .null, .null, .null, .null, .null, .int 0] j := by
  intro j hj
  match j, hj with
  | 0, _ => rfl
  | 1, _ => rfl
  | 2, _ => rfl
  | 3, _ => rfl
  | 4, _ => rfl
  | 5, _ => rfl
  | 6, _ => rfl
  | 7, _ => rfl
  | 8, _ => rfl
  | 9, _ => rfl
  | 10, _ => rfl
  | 11, _ => rfl
  | 12, _ => rfl
  | 13, _ => rfl
  | 14, _ => rfl
  | 15, _ => rfl
  | 16, _ => rfl
  | 17, _ => rfl
  | 18, _ => rfl
  | 19, _ => rfl
  | 20, _ => rfl
  | 21, _ => rfl
  | 22, _ => rfl
  | 23, _ => rfl
  | 24, _ => rfl
  | 25, _ => rfl
  | 26, _ => rfl
  | 27, _ => rfl
  | 28, _ => rfl
  | 29, _ => rfl
  | 30, _ => rfl
  | 31, _ => rfl
  | 32, _ => rfl
  | 33, _ => rfl
  | 34, _ => rfl
  | k + 35, h => exact absurd h (by omega)

/-! rows of rows: a block of rows rw 0 .. rw (N - 1) in the world -/
theorem blk_at {X Y : va_W} {f : Nat → Nat × va_E} {N j : Nat} (hj : j < N) : (X ++ ((List.range N).map f ++ Y))[X.length + j]? = some (f j) := by
  rw [List.getElem?_append_right (by omega), Nat.add_sub_cancel_left, List.getElem?_append_left (by simp; exact hj)]
  simp [List.getElem?_range hj]
theorem blk_set {X Y : va_W} {f : Nat → Nat × va_E} {N j : Nat} {e : Nat × va_E} (hj : j < N) : (X ++ ((List.range N).map f ++ Y)).set (X.length + j) e = X ++ ((List.range N).map (fun i => if i = j then e else f i) ++ Y) := by
  rw [List.set_append_right _ _ (by omega), Nat.add_sub_cancel_left, List.set_append_left _ _ (by simp; exact hj)]
  congr 2
  apply List.ext_getElem
  · simp
  · intro i h1 h2
    simp only [List.length_map, List.length_range] at h2
    by_cases e1 : i = j
    · subst e1; simp
    · simp [e1, Ne.symm e1]
theorem blk_P {D : va_G} {cl : List vw_C} {H : Heap} {X Y : va_W} {f : Nat → Nat × va_E} {N j : Nat} (hP : va_P D cl (X ++ ((List.range N).map f ++ Y)) H) (hj : j < N) : va_P D cl [f j] H := by
  intro k q hq
  have hk : k = 0 := by
    have := (List.getElem?_eq_some_iff.mp hq).1
    simp at this
    omega
  subst hk
  cases hq
  exact hP (X.length + j) _ (blk_at hj)
theorem blk_P2 {D : va_G} {cl : List vw_C} {H : Heap} {X B Y : va_W} {f : Nat → Nat × va_E} {N j : Nat} (hP : va_P D cl (X ++ (B ++ ((List.range N).map f ++ Y))) H) (hj : j < N) : va_P D cl [f j] H :=
  blk_P (X := X ++ B) (Y := Y) (by rw [List.append_assoc]; exact hP) hj
theorem blk_up {α : Type} {rw' : Nat → Nat} {mk : α → va_E} {F : Nat → α} {j : Nat} {g : α} : (fun i => if i = j then (rw' j, mk g) else (rw' i, mk (F i))) = (fun i => (rw' i, mk (va_up F j g i))) := by
  funext i
  by_cases e : i = j
  · subst e; simp [va_up]
  · simp [va_up, e]
theorem rowref {rw' : Nat → Nat} {N j : Nat} (h : j < N) (hN : N < 2 ^ 31) : va_rf ((fun i => if i < N then some (rw' i) else none) (nI j).toNatClampNeg) = .ref (rw' j) := by
  rw [nI_clamp (by omega)]
  simp [h, va_rf]
section VBK
variable {p : Program} {l : Launch} {e : Env} {R : Room} {s : State} {m : MethodId} {args : Array Value} {below : List Frame} {meth : Method} {c : Code} {H : Heap} {locs : List Loc} {cells slots : Nat} {Q : State → Prop}
variable {cc : ByteArray} {pc : Nat} {ls : Array Slot} {rest : List Value} {D : va_G} {cl : List vw_C} {A : Nat → Prop} {tys : List (ClassId × FieldType)} {X B Y : va_W} {H0 : Heap} {rw' : Nat → Nat} {N K j : Nat} {cA : ClassId}
theorem va_iastB {F : Nat → Nat → Int32} (hexec : p.tables.exec = Jvm.exec) (hb : c.code = cc) (hK : va_K D cl tys s) (hP : va_P D cl (X ++ ((List.range N).map (fun i => (rw' i, .inl (cA, K, .inl (F i)))) ++ Y)) H) (hD : va_D A (X ++ ((List.range N).map (fun i => (rw' i, .inl (cA, K, .inl (F i)))) ++ Y))) (hS : va_S A H0 H locs) (t0 : Nat) (hj : j < N) (ht : tys[t0]? = some (cA, .int)) {i x : Int32} (hin : vp_in i K) (hdg : decode cc pc = .ok (.iastore, 1))
    (kk : ∀ (H1 : Heap) (locs1 : List Loc), va_P D cl (X ++ ((List.range N).map (fun k => (rw' k, .inl (cA, K, .inl (va_up F j (upd (F j) i.toNatClampNeg x) k)))) ++ Y)) H1 → va_D A (X ++ ((List.range N).map (fun k => (rw' k, .inl (cA, K, .inl (va_up F j (upd (F j) i.toNatClampNeg x) k)))) ++ Y)) → va_S A H0 H1 locs1 → W p l e R s m args below meth c H1 locs1 cells slots Q (F0 m (pc + 1) ls rest)) : W p l e R s m args below meth c H locs cells slots Q (F0 m pc ls (.int x :: .int i :: .ref (rw' j) :: rest)) := by
  refine va_iast hexec hb hK hP hD hS (X.length + j) t0 (blk_at (f := fun i => (rw' i, .inl (cA, K, .inl (F i)))) hj) ht hin hdg (fun H1 locs1 h1 h2 h3 => ?_)
  rw [blk_set hj, blk_up (mk := fun g => .inl (cA, K, .inl g))] at h1 h2
  exact kk H1 locs1 h1 h2 h3
theorem va_iastB2 {F : Nat → Nat → Int32} (hexec : p.tables.exec = Jvm.exec) (hb : c.code = cc) (hK : va_K D cl tys s) (hP : va_P D cl (X ++ (B ++ ((List.range N).map (fun i => (rw' i, .inl (cA, K, .inl (F i)))) ++ Y))) H) (hD : va_D A (X ++ (B ++ ((List.range N).map (fun i => (rw' i, .inl (cA, K, .inl (F i)))) ++ Y)))) (hS : va_S A H0 H locs) (t0 : Nat) (hj : j < N) (ht : tys[t0]? = some (cA, .int)) {i x : Int32} (hin : vp_in i K) (hdg : decode cc pc = .ok (.iastore, 1))
    (kk : ∀ (H1 : Heap) (locs1 : List Loc), va_P D cl (X ++ (B ++ ((List.range N).map (fun k => (rw' k, .inl (cA, K, .inl (va_up F j (upd (F j) i.toNatClampNeg x) k)))) ++ Y))) H1 → va_D A (X ++ (B ++ ((List.range N).map (fun k => (rw' k, .inl (cA, K, .inl (va_up F j (upd (F j) i.toNatClampNeg x) k)))) ++ Y))) → va_S A H0 H1 locs1 → W p l e R s m args below meth c H1 locs1 cells slots Q (F0 m (pc + 1) ls rest)) : W p l e R s m args below meth c H locs cells slots Q (F0 m pc ls (.int x :: .int i :: .ref (rw' j) :: rest)) :=
  va_iastB (X := X ++ B) (Y := Y) hexec hb hK (by rw [List.append_assoc]; exact hP) (by rw [List.append_assoc]; exact hD) hS t0 hj ht hin hdg (fun H1 locs1 h1 h2 h3 => kk H1 locs1 (by rw [List.append_assoc] at h1; exact h1) (by rw [List.append_assoc] at h2; exact h2) h3)
theorem va_lastB {F : Nat → Nat → Int64} (hexec : p.tables.exec = Jvm.exec) (hb : c.code = cc) (hK : va_K D cl tys s) (hP : va_P D cl (X ++ ((List.range N).map (fun i => (rw' i, .inl (cA, K, .inr (.inl (F i))))) ++ Y)) H) (hD : va_D A (X ++ ((List.range N).map (fun i => (rw' i, .inl (cA, K, .inr (.inl (F i))))) ++ Y))) (hS : va_S A H0 H locs) (t0 : Nat) (hj : j < N) (ht : tys[t0]? = some (cA, .long)) {i : Int32} {x : Int64} (hin : vp_in i K) (hdg : decode cc pc = .ok (.lastore, 1))
    (kk : ∀ (H1 : Heap) (locs1 : List Loc), va_P D cl (X ++ ((List.range N).map (fun k => (rw' k, .inl (cA, K, .inr (.inl (va_up F j (vp_updL (F j) i.toNatClampNeg x) k))))) ++ Y)) H1 → va_D A (X ++ ((List.range N).map (fun k => (rw' k, .inl (cA, K, .inr (.inl (va_up F j (vp_updL (F j) i.toNatClampNeg x) k))))) ++ Y)) → va_S A H0 H1 locs1 → W p l e R s m args below meth c H1 locs1 cells slots Q (F0 m (pc + 1) ls rest)) : W p l e R s m args below meth c H locs cells slots Q (F0 m pc ls (.long x :: .int i :: .ref (rw' j) :: rest)) := by
  refine va_last hexec hb hK hP hD hS (X.length + j) t0 (blk_at (f := fun i => (rw' i, .inl (cA, K, .inr (.inl (F i))))) hj) ht hin hdg (fun H1 locs1 h1 h2 h3 => ?_)
  rw [blk_set hj, blk_up (mk := fun g => .inl (cA, K, .inr (.inl g)))] at h1 h2
  exact kk H1 locs1 h1 h2 h3
end VBK

def mx (x y : Int32) : Int32 := if x.toInt < y.toInt then y else x
def mn (x y : Int32) : Int32 := if y.toInt < x.toInt then y else x
def ab (x : Int32) : Int32 := if x.toInt < 0 then -x else x
def nzF (nz k : Int32) : Int32 := mx 0 (nz - (if k = 1 then 2 else if k = 3 then 1 else 0))
def cdF (cd wm k : Int32) : Int32 := mx 0 (cd - wm) + (if k = 2 ∧ ¬ cd < 5 then 1 else 0)
theorem i32_nat {x : Int32} {n : Nat} (h0 : 0 ≤ x.toInt) (h1 : x.toInt < (n : Int)) : ∃ j : Nat, j < n ∧ x = nI j := by
  have hr := x.toInt_lt
  refine ⟨x.toInt.toNat, by omega, ?_⟩
  apply Int32.toInt_inj.mp
  rw [nI_toInt (by have := x.toInt_lt; omega)]
  omega
def dn : Nat → Int32
  | 0 => -1
  | k + 1 => nI k
theorem dn_sub {n : Nat} : nI n - 1 = dn n := by
  cases n with
  | zero => decide
  | succ k => exact nI_pred k
theorem dn_pred (n : Nat) : nI n + Int32.ofInt (-1) = dn n := by
  cases n with
  | zero => decide
  | succ k => exact pk_m1 k
theorem mn_nI {a b : Nat} (ha : a < 2 ^ 31) (hb : b < 2 ^ 31) : mn (nI a) (nI b) = nI (min a b) := by
  unfold mn
  rw [nI_toInt ha, nI_toInt hb]
  split
  · rw [Nat.min_eq_right (by omega)]
  · rw [Nat.min_eq_left (by omega)]
def jlF (g : Int32) (k : Nat) (f4 f5 : Nat → Int32) : Int32 := if g = -4 then 0 else if g = nI k then 0 else if f4 g.toNatClampNeg = 4 ∧ f4 k = 4 then 0 else if f4 k = 5 then ab (f5 g.toNatClampNeg - f5 k) / 2 else ab (f5 g.toNatClampNeg - f5 k)
def hmF (N B : Nat) (f1 f2 f4 f5 f6 : Nat → Int32) (i g k : Int32) : Int32 := if (0 ≤ i.toInt ∧ i.toInt < (N : Int)) ∧ (g.toInt = -4 ∨ (0 ≤ g.toInt ∧ g.toInt < (B : Int))) ∧ (0 ≤ k.toInt ∧ k.toInt < (B : Int)) then mn 20 (nzF (f1 i.toNatClampNeg) (f4 k.toNatClampNeg) + cdF (f2 i.toNatClampNeg) (f6 k.toNatClampNeg) (f4 k.toNatClampNeg) + jlF g k.toNatClampNeg f4 f5) else 0
def hmO (N B : Nat) (f1 f2 f3 f4 f5 f6 : Nat → Int32) (i : Int32) : Int32 := if 0 ≤ i.toInt ∧ i.toInt < (N : Int) then hmF N B f1 f2 f4 f5 f6 i (if i = 0 then -4 else f3 (i.toNatClampNeg - 1)) (f3 i.toNatClampNeg) else 0
def slotF (g : Int32) (d : Nat) : Nat := (if g = -4 then 0 else g.toNatClampNeg + 1) * 10 + d
theorem slotF_lt {g : Int32} {d : Nat} (h : g.toInt = -4 ∨ (0 ≤ g.toInt ∧ g.toInt < 6)) (hd : d ≤ 9) : slotF g d < 70 := by
  unfold slotF
  have e : g.toNatClampNeg = g.toInt.toNat := rfl
  split <;> omega
theorem fz0 {a z r : Int32} {v : Int64} (h : r = if a = -1 then 1 else if v.toInt < 0 ∨ z.toInt ≤ v.toInt then 2 else 0) (h0 : r = 0) : 0 ≤ v.toInt ∧ v.toInt < z.toInt := by
  subst h
  split at h0
  · exact absurd h0 (by decide)
  · split at h0
    · exact absurd h0 (by decide)
    · omega
theorem l2i_in {x : Int64} (h0 : 0 ≤ x.toInt) (h1 : x.toInt < 1000) : x.toInt32.toInt = x.toInt := by
  have e : x.toInt32.toInt = x.toInt.bmod (2 ^ 32) := Int64.toInt_toInt32 x
  rw [e]
  exact Int.bmod_eq_of_le (by omega) (by omega)
set_option maxHeartbeats 1000000 in
set_option maxRecDepth 100000 in
theorem c_X9_hasStretch (l : Launch) (dC : Nat → ClassId) (dI : Nat → Nat → Nat) (G : Nat → ClassId) (sz : Nat) (h0 a1 a2 a3 a4 a5 a6 N B D : Nat) (i : Int32) (hN_N : N ≤ 10) (hB_B : B ≤ 6) (hD_D : 1 ≤ D ∧ D ≤ 9) : Met l yX9_hasStretch (Cond.code yX9_hasStretch cX9_hasStretch 2 (some .boolean) :: GT) ({ frames := 0, cells := 0, slots := 0, locals := 0 } : Room) (PcR [.ref h0, .int i] dC dI G [(h0, .inr (9, [.int (nI N), .int (nI B), .int (nI D), .ref a1, .ref a2, .ref a3, .ref a4, .ref a5, .ref a6]))] sz) (va_Qi (fun (r : Int32) (u : Unit) => match u with | _ => (r = if 0 ≤ i.toInt ∧ i.toInt < ((N : Nat) : Int) then 1 else 0) ∧ True) (fun _ _ => True) (fun q : Nat => sz ≤ q)) 0 0 (fun q : Nat => sz ≤ q) := by
  have tn1_ : nIT N := fun _ => nI_toInt (by omega)
  have tn2_ : nIT B := fun _ => nI_toInt (by omega)
  have tn3_ : nIT D := fun _ => nI_toInt (by omega)
  refine Met.ofW (cc := cX9_hasStretch) (maxL := 2) (ret := (some .boolean)) (by decide) rfl ?_
  intro p e s m args below meth c s₁ Bd hml hv
  obtain ⟨rfl, hsz, hP, hK⟩ := hv
  have hx := Bd.exec
  have hb := Bd.bytes
  have hr := Bd.returns
  have hg : ∀ w ∈ GT, w.before ([.ref h0, .int i] : List Value).toArray s = true := fun w h => atoms_spec (ws := Cond.code yX9_hasStretch cX9_hasStretch 2 (some .boolean) :: GT) Bd.pre w (List.mem_cons_of_mem _ h)
  have hown : s.vm.findClass RX9 = some m.cls := findClass_of_methodNamed Bd.named
  have hlocks := Bd.notSynchronized
  subst hsz
  have hA : ∀ q : Nat, s.heap.size ≤ q → (fun q : Nat => s.heap.size ≤ q) q := fun _ h => h
  have hS : va_S (fun q : Nat => s.heap.size ≤ q) s.heap s.heap [] := va_S.rf
  have hl := lv_entry ([.ref h0, .int i]) (n := 2) (Nat.le_of_ble_eq_true rfl)
  rw [lg_entry_eq]
  generalize (lg_sl ([.ref h0, .int i]) ++ List.replicate (2 - (lg_sl ([.ref h0, .int i])).length) Slot.unset).toArray = ls at hl ⊢
  have hl : lv_has ls 2 [(0, .ref h0), (1, .int i)] := hl
  refine lv_iload_n hx hb dX9_hasStretch_0 rfl (lv_at hl 1 rfl) ?_
  refine lv_if_lt (tgt := 16) hx hb dX9_hasStretch_1 rfl (fun c1 => ?_) (fun c1 => ?_)
  · skip
    refine lv_iconst (v := 0) hx hb dX9_hasStretch_16 rfl ?_
    have hpost : (0 : Int32) = if 0 ≤ i.toInt ∧ i.toInt < ((N : Nat) : Int) then 1 else 0 := by
      have t_c1 := ltI c1
      have : (0 : Int32).toInt = 0 := qI_0
      have t_n0 : (nI N).toInt = (N : Int) := tn1_ ()
      have t_n1 : (nI B).toInt = (B : Int) := tn2_ ()
      have t_n2 : (nI D).toInt = (D : Int) := tn3_ ()
      first | rfl | ((repeat' split) <;> first | rfl | omega)
    refine W.widen (k := 0) (n := 0) (Nat.le_of_ble_eq_true rfl) (Nat.le_of_ble_eq_true rfl) ?_
    exact W.zret (v := 0) hx hb hr (by first | rfl | decide | exact rfl) (fun t ht hW => ⟨⟨0, (), rfl, ⟨hpost, trivial⟩, trivial⟩, hS.F ht⟩) hS.2.2 dX9_hasStretch_17
  · skip
    refine lv_iload_n hx hb dX9_hasStretch_4 rfl (lv_at hl 1 rfl) ?_
    refine lv_aload_n hx hb dX9_hasStretch_5 rfl (lv_at hl 0 rfl) ?_
    refine va_get (D := (dC, dI)) (ci := 9) (v := .int (nI N)) (C := RX9) (T := TX9) (N := 9) hx hb hg inG9 hown hK.1 hP 0 rfl rfl 0 (Nat.le_of_ble_eq_true rfl) (hg _ wt_56) (fun _ h9 => h9) rfl dX9_hasStretch_6 ?_
    refine lv_icmp_ge (tgt := 16) hx hb dX9_hasStretch_9 rfl (fun c2 => ?_) (fun c2 => ?_)
    · skip
      refine lv_iconst (v := 0) hx hb dX9_hasStretch_16 rfl ?_
      have hpost : (0 : Int32) = if 0 ≤ i.toInt ∧ i.toInt < ((N : Nat) : Int) then 1 else 0 := by
        have t_c1 := nltI c1
        have t_c2 := leI c2
        have : (0 : Int32).toInt = 0 := qI_0
        have t_n0 : (nI N).toInt = (N : Int) := tn1_ ()
        have t_n1 : (nI B).toInt = (B : Int) := tn2_ ()
        have t_n2 : (nI D).toInt = (D : Int) := tn3_ ()
        first | rfl | ((repeat' split) <;> first | rfl | omega)
      refine W.widen (k := 0) (n := 0) (Nat.le_of_ble_eq_true rfl) (Nat.le_of_ble_eq_true rfl) ?_
      exact W.zret (v := 0) hx hb hr (by first | rfl | decide | exact rfl) (fun t ht hW => ⟨⟨0, (), rfl, ⟨hpost, trivial⟩, trivial⟩, hS.F ht⟩) hS.2.2 dX9_hasStretch_17
    · skip
      refine lv_iconst (v := 1) hx hb dX9_hasStretch_12 rfl ?_
      refine lv_goto (tgt := 17) hx hb dX9_hasStretch_13 rfl ?_
      have hpost : (1 : Int32) = if 0 ≤ i.toInt ∧ i.toInt < ((N : Nat) : Int) then 1 else 0 := by
        have t_c1 := nltI c1
        have t_c2 := nleI c2
        have : (0 : Int32).toInt = 0 := qI_0
        have t_n0 : (nI N).toInt = (N : Int) := tn1_ ()
        have t_n1 : (nI B).toInt = (B : Int) := tn2_ ()
        have t_n2 : (nI D).toInt = (D : Int) := tn3_ ()
        first | rfl | ((repeat' split) <;> first | rfl | omega)
      refine W.widen (k := 0) (n := 0) (Nat.le_of_ble_eq_true rfl) (Nat.le_of_ble_eq_true rfl) ?_
      exact W.zret (v := 1) hx hb hr (by first | rfl | decide | exact rfl) (fun t ht hW => ⟨⟨1, (), rfl, ⟨hpost, trivial⟩, trivial⟩, hS.F ht⟩) hS.2.2 dX9_hasStretch_17

set_option maxHeartbeats 1000000 in
set_option maxRecDepth 100000 in
theorem c_X9_hasBearer (l : Launch) (dC : Nat → ClassId) (dI : Nat → Nat → Nat) (G : Nat → ClassId) (sz : Nat) (h0 a1 a2 a3 a4 a5 a6 N B D : Nat) (i : Int32) (hN_N : N ≤ 10) (hB_B : B ≤ 6) (hD_D : 1 ≤ D ∧ D ≤ 9) : Met l yX9_hasBearer (Cond.code yX9_hasBearer cX9_hasBearer 2 (some .boolean) :: GT) ({ frames := 0, cells := 0, slots := 0, locals := 0 } : Room) (PcR [.ref h0, .int i] dC dI G [(h0, .inr (9, [.int (nI N), .int (nI B), .int (nI D), .ref a1, .ref a2, .ref a3, .ref a4, .ref a5, .ref a6]))] sz) (va_Qi (fun (r : Int32) (u : Unit) => match u with | _ => (r = if 0 ≤ i.toInt ∧ i.toInt < ((B : Nat) : Int) then 1 else 0) ∧ True) (fun _ _ => True) (fun q : Nat => sz ≤ q)) 0 0 (fun q : Nat => sz ≤ q) := by
  have tn4_ : nIT N := fun _ => nI_toInt (by omega)
  have tn5_ : nIT B := fun _ => nI_toInt (by omega)
  have tn6_ : nIT D := fun _ => nI_toInt (by omega)
  refine Met.ofW (cc := cX9_hasBearer) (maxL := 2) (ret := (some .boolean)) (by decide) rfl ?_
  intro p e s m args below meth c s₁ Bd hml hv
  obtain ⟨rfl, hsz, hP, hK⟩ := hv
  have hx := Bd.exec
  have hb := Bd.bytes
  have hr := Bd.returns
  have hg : ∀ w ∈ GT, w.before ([.ref h0, .int i] : List Value).toArray s = true := fun w h => atoms_spec (ws := Cond.code yX9_hasBearer cX9_hasBearer 2 (some .boolean) :: GT) Bd.pre w (List.mem_cons_of_mem _ h)
  have hown : s.vm.findClass RX9 = some m.cls := findClass_of_methodNamed Bd.named
  have hlocks := Bd.notSynchronized
  subst hsz
  have hA : ∀ q : Nat, s.heap.size ≤ q → (fun q : Nat => s.heap.size ≤ q) q := fun _ h => h
  have hS : va_S (fun q : Nat => s.heap.size ≤ q) s.heap s.heap [] := va_S.rf
  have hl := lv_entry ([.ref h0, .int i]) (n := 2) (Nat.le_of_ble_eq_true rfl)
  rw [lg_entry_eq]
  generalize (lg_sl ([.ref h0, .int i]) ++ List.replicate (2 - (lg_sl ([.ref h0, .int i])).length) Slot.unset).toArray = ls at hl ⊢
  have hl : lv_has ls 2 [(0, .ref h0), (1, .int i)] := hl
  refine lv_iload_n hx hb dX9_hasBearer_0 rfl (lv_at hl 1 rfl) ?_
  refine lv_if_lt (tgt := 16) hx hb dX9_hasBearer_1 rfl (fun c1 => ?_) (fun c1 => ?_)
  · skip
    refine lv_iconst (v := 0) hx hb dX9_hasBearer_16 rfl ?_
    have hpost : (0 : Int32) = if 0 ≤ i.toInt ∧ i.toInt < ((B : Nat) : Int) then 1 else 0 := by
      have t_c1 := ltI c1
      have : (0 : Int32).toInt = 0 := qI_0
      have t_n0 : (nI N).toInt = (N : Int) := tn4_ ()
      have t_n1 : (nI B).toInt = (B : Int) := tn5_ ()
      have t_n2 : (nI D).toInt = (D : Int) := tn6_ ()
      first | rfl | ((repeat' split) <;> first | rfl | omega)
    refine W.widen (k := 0) (n := 0) (Nat.le_of_ble_eq_true rfl) (Nat.le_of_ble_eq_true rfl) ?_
    exact W.zret (v := 0) hx hb hr (by first | rfl | decide | exact rfl) (fun t ht hW => ⟨⟨0, (), rfl, ⟨hpost, trivial⟩, trivial⟩, hS.F ht⟩) hS.2.2 dX9_hasBearer_17
  · skip
    refine lv_iload_n hx hb dX9_hasBearer_4 rfl (lv_at hl 1 rfl) ?_
    refine lv_aload_n hx hb dX9_hasBearer_5 rfl (lv_at hl 0 rfl) ?_
    refine va_get (D := (dC, dI)) (ci := 9) (v := .int (nI B)) (C := RX9) (T := TX9) (N := 9) hx hb hg inG9 hown hK.1 hP 0 rfl rfl 1 (Nat.le_of_ble_eq_true rfl) (hg _ wt_62) (fun _ h9 => h9) rfl dX9_hasBearer_6 ?_
    refine lv_icmp_ge (tgt := 16) hx hb dX9_hasBearer_9 rfl (fun c2 => ?_) (fun c2 => ?_)
    · skip
      refine lv_iconst (v := 0) hx hb dX9_hasBearer_16 rfl ?_
      have hpost : (0 : Int32) = if 0 ≤ i.toInt ∧ i.toInt < ((B : Nat) : Int) then 1 else 0 := by
        have t_c1 := nltI c1
        have t_c2 := leI c2
        have : (0 : Int32).toInt = 0 := qI_0
        have t_n0 : (nI N).toInt = (N : Int) := tn4_ ()
        have t_n1 : (nI B).toInt = (B : Int) := tn5_ ()
        have t_n2 : (nI D).toInt = (D : Int) := tn6_ ()
        first | rfl | ((repeat' split) <;> first | rfl | omega)
      refine W.widen (k := 0) (n := 0) (Nat.le_of_ble_eq_true rfl) (Nat.le_of_ble_eq_true rfl) ?_
      exact W.zret (v := 0) hx hb hr (by first | rfl | decide | exact rfl) (fun t ht hW => ⟨⟨0, (), rfl, ⟨hpost, trivial⟩, trivial⟩, hS.F ht⟩) hS.2.2 dX9_hasBearer_17
    · skip
      refine lv_iconst (v := 1) hx hb dX9_hasBearer_12 rfl ?_
      refine lv_goto (tgt := 17) hx hb dX9_hasBearer_13 rfl ?_
      have hpost : (1 : Int32) = if 0 ≤ i.toInt ∧ i.toInt < ((B : Nat) : Int) then 1 else 0 := by
        have t_c1 := nltI c1
        have t_c2 := nleI c2
        have : (0 : Int32).toInt = 0 := qI_0
        have t_n0 : (nI N).toInt = (N : Int) := tn4_ ()
        have t_n1 : (nI B).toInt = (B : Int) := tn5_ ()
        have t_n2 : (nI D).toInt = (D : Int) := tn6_ ()
        first | rfl | ((repeat' split) <;> first | rfl | omega)
      refine W.widen (k := 0) (n := 0) (Nat.le_of_ble_eq_true rfl) (Nat.le_of_ble_eq_true rfl) ?_
      exact W.zret (v := 1) hx hb hr (by first | rfl | decide | exact rfl) (fun t ht hW => ⟨⟨1, (), rfl, ⟨hpost, trivial⟩, trivial⟩, hS.F ht⟩) hS.2.2 dX9_hasBearer_17

set_option maxHeartbeats 1000000 in
set_option maxRecDepth 100000 in
theorem c_X9_canHand (l : Launch) (dC : Nat → ClassId) (dI : Nat → Nat → Nat) (G : Nat → ClassId) (sz : Nat) (h0 a1 a2 a3 a4 a5 a6 N B D : Nat) (i g k : Int32) (hN_N : N ≤ 10) (hB_B : B ≤ 6) (hD_D : 1 ≤ D ∧ D ≤ 9) : Met l yX9_canHand (Cond.code yX9_canHand cX9_canHand 4 (some .boolean) :: GT) ({ frames := 1, cells := 0, slots := 0, locals := 21 } : Room) (PcR [.ref h0, .int i, .int g, .int k] dC dI G [(h0, .inr (9, [.int (nI N), .int (nI B), .int (nI D), .ref a1, .ref a2, .ref a3, .ref a4, .ref a5, .ref a6]))] sz) (va_Qi (fun (r : Int32) (u : Unit) => match u with | _ => (r = if (0 ≤ i.toInt ∧ i.toInt < ((N : Nat) : Int)) ∧ (g.toInt = -4 ∨ (0 ≤ g.toInt ∧ g.toInt < ((B : Nat) : Int))) ∧ (0 ≤ k.toInt ∧ k.toInt < ((B : Nat) : Int)) then 1 else 0) ∧ True) (fun _ _ => True) (fun q : Nat => sz ≤ q)) 0 0 (fun q : Nat => sz ≤ q) := by
  have tn7_ : nIT N := fun _ => nI_toInt (by omega)
  have tn8_ : nIT B := fun _ => nI_toInt (by omega)
  have tn9_ : nIT D := fun _ => nI_toInt (by omega)
  refine Met.ofW (cc := cX9_canHand) (maxL := 4) (ret := (some .boolean)) (by decide) rfl ?_
  intro p e s m args below meth c s₁ Bd hml hv
  obtain ⟨rfl, hsz, hP, hK⟩ := hv
  have hx := Bd.exec
  have hb := Bd.bytes
  have hr := Bd.returns
  have hg : ∀ w ∈ GT, w.before ([.ref h0, .int i, .int g, .int k] : List Value).toArray s = true := fun w h => atoms_spec (ws := Cond.code yX9_canHand cX9_canHand 4 (some .boolean) :: GT) Bd.pre w (List.mem_cons_of_mem _ h)
  have hown : s.vm.findClass RX9 = some m.cls := findClass_of_methodNamed Bd.named
  have hlocks := Bd.notSynchronized
  subst hsz
  have hA : ∀ q : Nat, s.heap.size ≤ q → (fun q : Nat => s.heap.size ≤ q) q := fun _ h => h
  have hS : va_S (fun q : Nat => s.heap.size ≤ q) s.heap s.heap [] := va_S.rf
  have hl := lv_entry ([.ref h0, .int i, .int g, .int k]) (n := 4) (Nat.le_of_ble_eq_true rfl)
  rw [lg_entry_eq]
  generalize (lg_sl ([.ref h0, .int i, .int g, .int k]) ++ List.replicate (4 - (lg_sl ([.ref h0, .int i, .int g, .int k])).length) Slot.unset).toArray = ls at hl ⊢
  have hl : lv_has ls 4 [(0, .ref h0), (1, .int i), (2, .int g), (3, .int k)] := hl
  refine lv_aload_n hx hb dX9_canHand_0 rfl (lv_at hl 0 rfl) ?_
  refine lv_iload_n hx hb dX9_canHand_1 rfl (lv_at hl 1 rfl) ?_
  have hPc := hP.sub (ws' := [(h0, .inr (9, [.int (nI N), .int (nI B), .int (nI D), .ref a1, .ref a2, .ref a3, .ref a4, .ref a5, .ref a6]))]) [0] rfl
  refine va_calli (va_runV (As := [.int i]) (rest := []) ⟨hx, hb, hml, hown, hg⟩ (c_X9_hasStretch l dC dI G _ h0 a1 a2 a3 a4 a5 a6 N B D i hN_N hB_B hD_D) (kwV hg mfX9_hasStretch wt_574 ⟨Nat.le_of_ble_eq_true rfl, Nat.le_of_ble_eq_true rfl⟩) (preVR hK hPc (ci := 9) rfl rfl) rfl rfl hl.1 rfl (lv_room (Nat.le_of_ble_eq_true rfl)) dX9_canHand_2 ⟨Nat.le_of_ble_eq_true rfl, Nat.le_of_ble_eq_true rfl⟩) hS (fun q h1 h2 => absurd h2 (Nat.not_le.mpr h1)) (fun q h => hA q (Nat.le_trans hS.1 h)) (fun r1 ur1 t H1 locs ht hvm w2 hB hz1 hk1 hS => ?_)
  have hP := keepR hP hk1
  obtain ⟨w2, w2x⟩ := w2
  try simp only [l_ii, show (0 : Int32).toInt = 0 from by decide] at w2
  try rw [show (nI (N)).toInt = ((N : Nat) : Int) from tn7_ ()] at w2
  subst w2
  refine lv_if_eq (tgt := 34) hx hb dX9_canHand_5 rfl (fun c3 => ?_) (fun c3 => ?_)
  · skip
    have b4 := if10_n c3
    refine lv_iconst (v := 0) hx hb dX9_canHand_34 rfl ?_
    have hpost : (0 : Int32) = if (0 ≤ i.toInt ∧ i.toInt < ((N : Nat) : Int)) ∧ (g.toInt = -4 ∨ (0 ≤ g.toInt ∧ g.toInt < ((B : Nat) : Int))) ∧ (0 ≤ k.toInt ∧ k.toInt < ((B : Nat) : Int)) then 1 else 0 := by
      have t_b4 := b4
      have t_n0 : (nI N).toInt = (N : Int) := tn7_ ()
      have t_n1 : (nI B).toInt = (B : Int) := tn8_ ()
      have t_n2 : (nI D).toInt = (D : Int) := tn9_ ()
      first | rfl | ((repeat' split) <;> first | rfl | omega)
    refine W.widen (k := 0) (n := 0) (Nat.le_of_ble_eq_true rfl) (Nat.le_of_ble_eq_true rfl) ?_
    exact W.zret (v := 0) hx hb hr (by first | rfl | decide | exact rfl) (fun t ht hW => ⟨⟨0, (), rfl, ⟨hpost, trivial⟩, trivial⟩, hS.F ht⟩) hS.2.2 dX9_canHand_35
  · skip
    have b5 := if10_p c3
    refine lv_iload_n hx hb dX9_canHand_8 rfl (lv_at hl 2 rfl) ?_
    refine lv_bipush (v := (-4)) hx hb dX9_canHand_9 rfl ?_
    refine lv_icmp_eq (tgt := 22) hx hb dX9_canHand_11 rfl (fun c6 => ?_) (fun c6 => ?_)
    · skip
      refine lv_aload_n hx hb dX9_canHand_22 rfl (lv_at hl 0 rfl) ?_
      refine lv_iload_n hx hb dX9_canHand_23 rfl (lv_at hl 3 rfl) ?_
      have hPc := hP.sub (ws' := [(h0, .inr (9, [.int (nI N), .int (nI B), .int (nI D), .ref a1, .ref a2, .ref a3, .ref a4, .ref a5, .ref a6]))]) [0] rfl
      refine va_calli (va_runV (As := [.int k]) (rest := []) ⟨hx, hb, hml, hown, hg⟩ (c_X9_hasBearer l dC dI G _ h0 a1 a2 a3 a4 a5 a6 N B D k hN_N hB_B hD_D) (kwV hg mfX9_hasBearer wt_575 ⟨Nat.le_of_ble_eq_true rfl, Nat.le_of_ble_eq_true rfl⟩) (preVR hK hPc (ci := 9) rfl rfl) rfl rfl hl.1 rfl (lv_room (Nat.le_of_ble_eq_true rfl)) dX9_canHand_24 ⟨Nat.le_of_ble_eq_true rfl, Nat.le_of_ble_eq_true rfl⟩) hS (fun q h1 h2 => absurd h2 (Nat.not_le.mpr h1)) (fun q h => hA q (Nat.le_trans hS.1 h)) (fun r7 ur7 t H1 locs ht hvm w8 hB hz1 hk1 hS => ?_)
      have hP := keepR hP hk1
      obtain ⟨w8, w8x⟩ := w8
      try simp only [l_ii, show (0 : Int32).toInt = 0 from by decide] at w8
      try rw [show (nI (B)).toInt = ((B : Nat) : Int) from tn8_ ()] at w8
      subst w8
      refine lv_if_eq (tgt := 34) hx hb dX9_canHand_27 rfl (fun c9 => ?_) (fun c9 => ?_)
      · skip
        have b10 := if10_n c9
        refine lv_iconst (v := 0) hx hb dX9_canHand_34 rfl ?_
        have hpost : (0 : Int32) = if (0 ≤ i.toInt ∧ i.toInt < ((N : Nat) : Int)) ∧ (g.toInt = -4 ∨ (0 ≤ g.toInt ∧ g.toInt < ((B : Nat) : Int))) ∧ (0 ≤ k.toInt ∧ k.toInt < ((B : Nat) : Int)) then 1 else 0 := by
          have t_b5 := b5
          have t_c6 := eqI c6
          have t_b10 := b10
          have : ((-4) : Int32).toInt = -4 := qI_m4
          have t_n0 : (nI N).toInt = (N : Int) := tn7_ ()
          have t_n1 : (nI B).toInt = (B : Int) := tn8_ ()
          have t_n2 : (nI D).toInt = (D : Int) := tn9_ ()
          first | rfl | ((repeat' split) <;> first | rfl | omega)
        refine W.widen (k := 0) (n := 0) (Nat.le_of_ble_eq_true rfl) (Nat.le_of_ble_eq_true rfl) ?_
        exact W.zret (v := 0) hx hb hr (by first | rfl | decide | exact rfl) (fun t ht hW => ⟨⟨0, (), rfl, ⟨hpost, trivial⟩, trivial⟩, hS.F ht⟩) hS.2.2 dX9_canHand_35
      · skip
        have b11 := if10_p c9
        refine lv_iconst (v := 1) hx hb dX9_canHand_30 rfl ?_
        refine lv_goto (tgt := 35) hx hb dX9_canHand_31 rfl ?_
        have hpost : (1 : Int32) = if (0 ≤ i.toInt ∧ i.toInt < ((N : Nat) : Int)) ∧ (g.toInt = -4 ∨ (0 ≤ g.toInt ∧ g.toInt < ((B : Nat) : Int))) ∧ (0 ≤ k.toInt ∧ k.toInt < ((B : Nat) : Int)) then 1 else 0 := by
          have t_b5 := b5
          have t_c6 := eqI c6
          have t_b11 := b11
          have : ((-4) : Int32).toInt = -4 := qI_m4
          have t_n0 : (nI N).toInt = (N : Int) := tn7_ ()
          have t_n1 : (nI B).toInt = (B : Int) := tn8_ ()
          have t_n2 : (nI D).toInt = (D : Int) := tn9_ ()
          first | rfl | ((repeat' split) <;> first | rfl | omega)
        refine W.widen (k := 0) (n := 0) (Nat.le_of_ble_eq_true rfl) (Nat.le_of_ble_eq_true rfl) ?_
        exact W.zret (v := 1) hx hb hr (by first | rfl | decide | exact rfl) (fun t ht hW => ⟨⟨1, (), rfl, ⟨hpost, trivial⟩, trivial⟩, hS.F ht⟩) hS.2.2 dX9_canHand_35
    · skip
      refine lv_aload_n hx hb dX9_canHand_14 rfl (lv_at hl 0 rfl) ?_
      refine lv_iload_n hx hb dX9_canHand_15 rfl (lv_at hl 2 rfl) ?_
      have hPc := hP.sub (ws' := [(h0, .inr (9, [.int (nI N), .int (nI B), .int (nI D), .ref a1, .ref a2, .ref a3, .ref a4, .ref a5, .ref a6]))]) [0] rfl
      refine va_calli (va_runV (As := [.int g]) (rest := []) ⟨hx, hb, hml, hown, hg⟩ (c_X9_hasBearer l dC dI G _ h0 a1 a2 a3 a4 a5 a6 N B D g hN_N hB_B hD_D) (kwV hg mfX9_hasBearer wt_575 ⟨Nat.le_of_ble_eq_true rfl, Nat.le_of_ble_eq_true rfl⟩) (preVR hK hPc (ci := 9) rfl rfl) rfl rfl hl.1 rfl (lv_room (Nat.le_of_ble_eq_true rfl)) dX9_canHand_16 ⟨Nat.le_of_ble_eq_true rfl, Nat.le_of_ble_eq_true rfl⟩) hS (fun q h1 h2 => absurd h2 (Nat.not_le.mpr h1)) (fun q h => hA q (Nat.le_trans hS.1 h)) (fun r12 ur12 t H1 locs ht hvm w13 hB hz1 hk1 hS => ?_)
      have hP := keepR hP hk1
      obtain ⟨w13, w13x⟩ := w13
      try simp only [l_ii, show (0 : Int32).toInt = 0 from by decide] at w13
      try rw [show (nI (B)).toInt = ((B : Nat) : Int) from tn8_ ()] at w13
      subst w13
      refine lv_if_eq (tgt := 34) hx hb dX9_canHand_19 rfl (fun c14 => ?_) (fun c14 => ?_)
      · skip
        have b15 := if10_n c14
        refine lv_iconst (v := 0) hx hb dX9_canHand_34 rfl ?_
        have hpost : (0 : Int32) = if (0 ≤ i.toInt ∧ i.toInt < ((N : Nat) : Int)) ∧ (g.toInt = -4 ∨ (0 ≤ g.toInt ∧ g.toInt < ((B : Nat) : Int))) ∧ (0 ≤ k.toInt ∧ k.toInt < ((B : Nat) : Int)) then 1 else 0 := by
          have t_b5 := b5
          have t_c6 := neI c6
          have t_b15 := b15
          have : ((-4) : Int32).toInt = -4 := qI_m4
          have t_n0 : (nI N).toInt = (N : Int) := tn7_ ()
          have t_n1 : (nI B).toInt = (B : Int) := tn8_ ()
          have t_n2 : (nI D).toInt = (D : Int) := tn9_ ()
          first | rfl | ((repeat' split) <;> first | rfl | omega)
        refine W.widen (k := 0) (n := 0) (Nat.le_of_ble_eq_true rfl) (Nat.le_of_ble_eq_true rfl) ?_
        exact W.zret (v := 0) hx hb hr (by first | rfl | decide | exact rfl) (fun t ht hW => ⟨⟨0, (), rfl, ⟨hpost, trivial⟩, trivial⟩, hS.F ht⟩) hS.2.2 dX9_canHand_35
      · skip
        have b16 := if10_p c14
        refine lv_aload_n hx hb dX9_canHand_22 rfl (lv_at hl 0 rfl) ?_
        refine lv_iload_n hx hb dX9_canHand_23 rfl (lv_at hl 3 rfl) ?_
        have hPc := hP.sub (ws' := [(h0, .inr (9, [.int (nI N), .int (nI B), .int (nI D), .ref a1, .ref a2, .ref a3, .ref a4, .ref a5, .ref a6]))]) [0] rfl
        refine va_calli (va_runV (As := [.int k]) (rest := []) ⟨hx, hb, hml, hown, hg⟩ (c_X9_hasBearer l dC dI G _ h0 a1 a2 a3 a4 a5 a6 N B D k hN_N hB_B hD_D) (kwV hg mfX9_hasBearer wt_575 ⟨Nat.le_of_ble_eq_true rfl, Nat.le_of_ble_eq_true rfl⟩) (preVR hK hPc (ci := 9) rfl rfl) rfl rfl hl.1 rfl (lv_room (Nat.le_of_ble_eq_true rfl)) dX9_canHand_24 ⟨Nat.le_of_ble_eq_true rfl, Nat.le_of_ble_eq_true rfl⟩) hS (fun q h1 h2 => absurd h2 (Nat.not_le.mpr h1)) (fun q h => hA q (Nat.le_trans hS.1 h)) (fun r17 ur17 t H1 locs ht hvm w18 hB hz1 hk1 hS => ?_)
        have hP := keepR hP hk1
        obtain ⟨w18, w18x⟩ := w18
        try simp only [l_ii, show (0 : Int32).toInt = 0 from by decide] at w18
        try rw [show (nI (B)).toInt = ((B : Nat) : Int) from tn8_ ()] at w18
        subst w18
        refine lv_if_eq (tgt := 34) hx hb dX9_canHand_27 rfl (fun c19 => ?_) (fun c19 => ?_)
        · skip
          have b20 := if10_n c19
          refine lv_iconst (v := 0) hx hb dX9_canHand_34 rfl ?_
          have hpost : (0 : Int32) = if (0 ≤ i.toInt ∧ i.toInt < ((N : Nat) : Int)) ∧ (g.toInt = -4 ∨ (0 ≤ g.toInt ∧ g.toInt < ((B : Nat) : Int))) ∧ (0 ≤ k.toInt ∧ k.toInt < ((B : Nat) : Int)) then 1 else 0 := by
            have t_b5 := b5
            have t_c6 := neI c6
            have t_b16 := b16
            have t_b20 := b20
            have : ((-4) : Int32).toInt = -4 := qI_m4
            have t_n0 : (nI N).toInt = (N : Int) := tn7_ ()
            have t_n1 : (nI B).toInt = (B : Int) := tn8_ ()
            have t_n2 : (nI D).toInt = (D : Int) := tn9_ ()
            first | rfl | ((repeat' split) <;> first | rfl | omega)
          refine W.widen (k := 0) (n := 0) (Nat.le_of_ble_eq_true rfl) (Nat.le_of_ble_eq_true rfl) ?_
          exact W.zret (v := 0) hx hb hr (by first | rfl | decide | exact rfl) (fun t ht hW => ⟨⟨0, (), rfl, ⟨hpost, trivial⟩, trivial⟩, hS.F ht⟩) hS.2.2 dX9_canHand_35
        · skip
          have b21 := if10_p c19
          refine lv_iconst (v := 1) hx hb dX9_canHand_30 rfl ?_
          refine lv_goto (tgt := 35) hx hb dX9_canHand_31 rfl ?_
          have hpost : (1 : Int32) = if (0 ≤ i.toInt ∧ i.toInt < ((N : Nat) : Int)) ∧ (g.toInt = -4 ∨ (0 ≤ g.toInt ∧ g.toInt < ((B : Nat) : Int))) ∧ (0 ≤ k.toInt ∧ k.toInt < ((B : Nat) : Int)) then 1 else 0 := by
            have t_b5 := b5
            have t_c6 := neI c6
            have t_b16 := b16
            have t_b21 := b21
            have : ((-4) : Int32).toInt = -4 := qI_m4
            have t_n0 : (nI N).toInt = (N : Int) := tn7_ ()
            have t_n1 : (nI B).toInt = (B : Int) := tn8_ ()
            have t_n2 : (nI D).toInt = (D : Int) := tn9_ ()
            first | rfl | ((repeat' split) <;> first | rfl | omega)
          refine W.widen (k := 0) (n := 0) (Nat.le_of_ble_eq_true rfl) (Nat.le_of_ble_eq_true rfl) ?_
          exact W.zret (v := 1) hx hb hr (by first | rfl | decide | exact rfl) (fun t ht hW => ⟨⟨1, (), rfl, ⟨hpost, trivial⟩, trivial⟩, hS.F ht⟩) hS.2.2 dX9_canHand_35

set_option maxHeartbeats 1000000 in
set_option maxRecDepth 100000 in
theorem c_J9_max (l : Launch) (dC : Nat → ClassId) (dI : Nat → Nat → Nat) (G : Nat → ClassId) (sz : Nat) (x1 x2 : Int32)  : Met l yJ9_max_7cf53 (Cond.code yJ9_max_7cf53 cJ9_max_7cf53 2 (some .int) :: GT) ({ frames := 0, cells := 0, slots := 0, locals := 0 } : Room) (PcR [.int x1, .int x2] dC dI G [] sz) (va_Qi (fun (r : Int32) (u : Unit) => match u with | _ => (r = mx x1 x2) ∧ True) (fun _ _ => True) (fun q : Nat => sz ≤ q)) 0 0 (fun q : Nat => sz ≤ q) := by
  refine va_MetF (cc := cJ9_max_7cf53) (maxL := 2) (ret := (some .int)) (by decide +kernel) rfl ?_
  intro p e s m args below meth c s₁ Bd hml hv
  obtain ⟨rfl, hsz, hP, hK⟩ := hv
  have hx := Bd.exec
  have hb := Bd.bytes
  have hr := Bd.returns
  have hg : ∀ w ∈ GT, w.before ([.int x1, .int x2] : List Value).toArray s = true := fun w h => atoms_spec (ws := Cond.code yJ9_max_7cf53 cJ9_max_7cf53 2 (some .int) :: GT) Bd.pre w (List.mem_cons_of_mem _ h)
  have hown : s.vm.findClass RJ9 = some m.cls := findClass_of_methodNamed Bd.named
  have hlocks := Bd.notSynchronized
  subst hsz
  have hA : ∀ q : Nat, s.heap.size ≤ q → (fun q : Nat => s.heap.size ≤ q) q := fun _ h => h
  have hS : va_S (fun q : Nat => s.heap.size ≤ q) s.heap s.heap [] := va_S.rf
  have hl := lv_entry ([.int x1, .int x2]) (n := 2) (Nat.le_of_ble_eq_true rfl)
  rw [lg_entry_eq]
  generalize (lg_sl ([.int x1, .int x2]) ++ List.replicate (2 - (lg_sl ([.int x1, .int x2])).length) Slot.unset).toArray = ls at hl ⊢
  have hl : lv_has ls 2 [(0, .int x1), (1, .int x2)] := hl
  refine lv_iload_n hx hb dJ9_max_7cf53_0 rfl (lv_at hl 0 rfl) ?_
  refine lv_iload_n hx hb dJ9_max_7cf53_1 rfl (lv_at hl 1 rfl) ?_
  refine lv_icmp_lt (tgt := 9) hx hb dJ9_max_7cf53_2 rfl (fun c1 => ?_) (fun c1 => ?_)
  · skip
    refine lv_iload_n hx hb dJ9_max_7cf53_9 rfl (lv_at hl 1 rfl) ?_
    have hpost : (x2 : Int32) = mx x1 x2 := by
      have t_c1 := ltI c1
      unfold mx
      split <;> first | rfl | omega
    refine W.widen (k := 0) (n := 0) (Nat.le_of_ble_eq_true rfl) (Nat.le_of_ble_eq_true rfl) ?_
    exact W.iret (v := x2) hx hb hr (fun t ht hW => ⟨⟨x2, (), rfl, ⟨hpost, trivial⟩, trivial⟩, hS.F ht⟩) hS.2.2 dJ9_max_7cf53_10
  · skip
    refine lv_iload_n hx hb dJ9_max_7cf53_5 rfl (lv_at hl 0 rfl) ?_
    refine lv_goto (tgt := 10) hx hb dJ9_max_7cf53_6 rfl ?_
    have hpost : (x1 : Int32) = mx x1 x2 := by
      have t_c1 := nltI c1
      unfold mx
      split <;> first | rfl | omega
    refine W.widen (k := 0) (n := 0) (Nat.le_of_ble_eq_true rfl) (Nat.le_of_ble_eq_true rfl) ?_
    exact W.iret (v := x1) hx hb hr (fun t ht hW => ⟨⟨x1, (), rfl, ⟨hpost, trivial⟩, trivial⟩, hS.F ht⟩) hS.2.2 dJ9_max_7cf53_10

set_option maxHeartbeats 1000000 in
set_option maxRecDepth 100000 in
theorem c_J9_min (l : Launch) (dC : Nat → ClassId) (dI : Nat → Nat → Nat) (G : Nat → ClassId) (sz : Nat) (x1 x2 : Int32)  : Met l yJ9_min_7cf53 (Cond.code yJ9_min_7cf53 cJ9_min_7cf53 2 (some .int) :: GT) ({ frames := 0, cells := 0, slots := 0, locals := 0 } : Room) (PcR [.int x1, .int x2] dC dI G [] sz) (va_Qi (fun (r : Int32) (u : Unit) => match u with | _ => (r = mn x1 x2) ∧ True) (fun _ _ => True) (fun q : Nat => sz ≤ q)) 0 0 (fun q : Nat => sz ≤ q) := by
  refine va_MetF (cc := cJ9_min_7cf53) (maxL := 2) (ret := (some .int)) (by decide +kernel) rfl ?_
  intro p e s m args below meth c s₁ Bd hml hv
  obtain ⟨rfl, hsz, hP, hK⟩ := hv
  have hx := Bd.exec
  have hb := Bd.bytes
  have hr := Bd.returns
  have hg : ∀ w ∈ GT, w.before ([.int x1, .int x2] : List Value).toArray s = true := fun w h => atoms_spec (ws := Cond.code yJ9_min_7cf53 cJ9_min_7cf53 2 (some .int) :: GT) Bd.pre w (List.mem_cons_of_mem _ h)
  have hown : s.vm.findClass RJ9 = some m.cls := findClass_of_methodNamed Bd.named
  have hlocks := Bd.notSynchronized
  subst hsz
  have hA : ∀ q : Nat, s.heap.size ≤ q → (fun q : Nat => s.heap.size ≤ q) q := fun _ h => h
  have hS : va_S (fun q : Nat => s.heap.size ≤ q) s.heap s.heap [] := va_S.rf
  have hl := lv_entry ([.int x1, .int x2]) (n := 2) (Nat.le_of_ble_eq_true rfl)
  rw [lg_entry_eq]
  generalize (lg_sl ([.int x1, .int x2]) ++ List.replicate (2 - (lg_sl ([.int x1, .int x2])).length) Slot.unset).toArray = ls at hl ⊢
  have hl : lv_has ls 2 [(0, .int x1), (1, .int x2)] := hl
  refine lv_iload_n hx hb dJ9_min_7cf53_0 rfl (lv_at hl 0 rfl) ?_
  refine lv_iload_n hx hb dJ9_min_7cf53_1 rfl (lv_at hl 1 rfl) ?_
  refine lv_icmp_gt (tgt := 9) hx hb dJ9_min_7cf53_2 rfl (fun c1 => ?_) (fun c1 => ?_)
  · skip
    refine lv_iload_n hx hb dJ9_min_7cf53_9 rfl (lv_at hl 1 rfl) ?_
    have hpost : (x2 : Int32) = mn x1 x2 := by
      have t_c1 := ltI c1
      unfold mn
      split <;> first | rfl | omega
    refine W.widen (k := 0) (n := 0) (Nat.le_of_ble_eq_true rfl) (Nat.le_of_ble_eq_true rfl) ?_
    exact W.iret (v := x2) hx hb hr (fun t ht hW => ⟨⟨x2, (), rfl, ⟨hpost, trivial⟩, trivial⟩, hS.F ht⟩) hS.2.2 dJ9_min_7cf53_10
  · skip
    refine lv_iload_n hx hb dJ9_min_7cf53_5 rfl (lv_at hl 0 rfl) ?_
    refine lv_goto (tgt := 10) hx hb dJ9_min_7cf53_6 rfl ?_
    have hpost : (x1 : Int32) = mn x1 x2 := by
      have t_c1 := nltI c1
      unfold mn
      split <;> first | rfl | omega
    refine W.widen (k := 0) (n := 0) (Nat.le_of_ble_eq_true rfl) (Nat.le_of_ble_eq_true rfl) ?_
    exact W.iret (v := x1) hx hb hr (fun t ht hW => ⟨⟨x1, (), rfl, ⟨hpost, trivial⟩, trivial⟩, hS.F ht⟩) hS.2.2 dJ9_min_7cf53_10

set_option maxHeartbeats 1000000 in
set_option maxRecDepth 100000 in
theorem c_J9_abs (l : Launch) (dC : Nat → ClassId) (dI : Nat → Nat → Nat) (G : Nat → ClassId) (sz : Nat) (x1 : Int32)  : Met l yJ9_abs_0f7a4 (Cond.code yJ9_abs_0f7a4 cJ9_abs_0f7a4 1 (some .int) :: GT) ({ frames := 0, cells := 0, slots := 0, locals := 0 } : Room) (PcR [.int x1] dC dI G [] sz) (va_Qi (fun (r : Int32) (u : Unit) => match u with | _ => (r = ab x1) ∧ True) (fun _ _ => True) (fun q : Nat => sz ≤ q)) 0 0 (fun q : Nat => sz ≤ q) := by
  refine va_MetF (cc := cJ9_abs_0f7a4) (maxL := 1) (ret := (some .int)) (by decide +kernel) rfl ?_
  intro p e s m args below meth c s₁ Bd hml hv
  obtain ⟨rfl, hsz, hP, hK⟩ := hv
  have hx := Bd.exec
  have hb := Bd.bytes
  have hr := Bd.returns
  have hg : ∀ w ∈ GT, w.before ([.int x1] : List Value).toArray s = true := fun w h => atoms_spec (ws := Cond.code yJ9_abs_0f7a4 cJ9_abs_0f7a4 1 (some .int) :: GT) Bd.pre w (List.mem_cons_of_mem _ h)
  have hown : s.vm.findClass RJ9 = some m.cls := findClass_of_methodNamed Bd.named
  have hlocks := Bd.notSynchronized
  subst hsz
  have hA : ∀ q : Nat, s.heap.size ≤ q → (fun q : Nat => s.heap.size ≤ q) q := fun _ h => h
  have hS : va_S (fun q : Nat => s.heap.size ≤ q) s.heap s.heap [] := va_S.rf
  have hl := lv_entry ([.int x1]) (n := 1) (Nat.le_of_ble_eq_true rfl)
  rw [lg_entry_eq]
  generalize (lg_sl ([.int x1]) ++ List.replicate (1 - (lg_sl ([.int x1])).length) Slot.unset).toArray = ls at hl ⊢
  have hl : lv_has ls 1 [(0, .int x1)] := hl
  refine lv_iload_n hx hb dJ9_abs_0f7a4_0 rfl (lv_at hl 0 rfl) ?_
  refine lv_if_ge (tgt := 9) hx hb dJ9_abs_0f7a4_1 rfl (fun c1 => ?_) (fun c1 => ?_)
  · skip
    refine lv_iload_n hx hb dJ9_abs_0f7a4_9 rfl (lv_at hl 0 rfl) ?_
    have hpost : (x1 : Int32) = ab x1 := by
      have t_c1 := leI c1
      have : (0 : Int32).toInt = 0 := qI_0
      unfold ab
      split <;> first | rfl | omega
    refine W.widen (k := 0) (n := 0) (Nat.le_of_ble_eq_true rfl) (Nat.le_of_ble_eq_true rfl) ?_
    exact W.iret (v := x1) hx hb hr (fun t ht hW => ⟨⟨x1, (), rfl, ⟨hpost, trivial⟩, trivial⟩, hS.F ht⟩) hS.2.2 dJ9_abs_0f7a4_10
  · skip
    refine lv_iload_n hx hb dJ9_abs_0f7a4_4 rfl (lv_at hl 0 rfl) ?_
    refine lv_ineg hx hb dJ9_abs_0f7a4_5 ?_
    refine lv_goto (tgt := 10) hx hb dJ9_abs_0f7a4_6 rfl ?_
    have hpost : (-x1 : Int32) = ab x1 := by
      have t_c1 := nleI c1
      have : (0 : Int32).toInt = 0 := qI_0
      unfold ab
      split <;> first | rfl | omega
    refine W.widen (k := 0) (n := 0) (Nat.le_of_ble_eq_true rfl) (Nat.le_of_ble_eq_true rfl) ?_
    exact W.iret (v := -x1) hx hb hr (fun t ht hW => ⟨⟨-x1, (), rfl, ⟨hpost, trivial⟩, trivial⟩, hS.F ht⟩) hS.2.2 dJ9_abs_0f7a4_10

set_option maxHeartbeats 1000000 in
set_option maxRecDepth 100000 in
theorem c_X9_noiseBy (l : Launch) (dC : Nat → ClassId) (dI : Nat → Nat → Nat) (G : Nat → ClassId) (sz : Nat) (h0 a1 a2 a3 a4 a5 a6 N B D i k : Nat) (f1 f4 : Nat → Int32) (hN_N : N ≤ 10) (hB_B : B ≤ 6) (hD_D : 1 ≤ D ∧ D ≤ 9) (hi : i < 10) (hk : k < 6) : Met l yX9_noiseBy (Cond.code yX9_noiseBy cX9_noiseBy 4 (some .int) :: GT) ({ frames := 1, cells := 0, slots := 0, locals := 21 } : Room) (PcR [.ref h0, .int (nI i), .int (nI k)] dC dI G [(h0, .inr (9, [.int (nI N), .int (nI B), .int (nI D), .ref a1, .ref a2, .ref a3, .ref a4, .ref a5, .ref a6])), (a1, .inl (G 0, 10, .inl f1)), (a4, .inl (G 0, 6, .inl f4))] sz) (va_Qi (fun (r : Int32) (u : Unit) => match u with | _ => (r = nzF (f1 i) (f4 k)) ∧ True) (fun _ _ => True) (fun q : Nat => sz ≤ q)) 0 0 (fun q : Nat => sz ≤ q) := by
  have tn10_ : nIT N := fun _ => nI_toInt (by omega)
  have tn11_ : nIT B := fun _ => nI_toInt (by omega)
  have tn12_ : nIT D := fun _ => nI_toInt (by omega)
  refine Met.ofW (cc := cX9_noiseBy) (maxL := 4) (ret := (some .int)) (by decide) rfl ?_
  intro p e s m args below meth c s₁ Bd hml hv
  obtain ⟨rfl, hsz, hP, hK⟩ := hv
  have hx := Bd.exec
  have hb := Bd.bytes
  have hr := Bd.returns
  have hg : ∀ w ∈ GT, w.before ([.ref h0, .int (nI i), .int (nI k)] : List Value).toArray s = true := fun w h => atoms_spec (ws := Cond.code yX9_noiseBy cX9_noiseBy 4 (some .int) :: GT) Bd.pre w (List.mem_cons_of_mem _ h)
  have hown : s.vm.findClass RX9 = some m.cls := findClass_of_methodNamed Bd.named
  have hlocks := Bd.notSynchronized
  subst hsz
  have hA : ∀ q : Nat, s.heap.size ≤ q → (fun q : Nat => s.heap.size ≤ q) q := fun _ h => h
  have hS : va_S (fun q : Nat => s.heap.size ≤ q) s.heap s.heap [] := va_S.rf
  have hl := lv_entry ([.ref h0, .int (nI i), .int (nI k)]) (n := 4) (Nat.le_of_ble_eq_true rfl)
  rw [lg_entry_eq]
  generalize (lg_sl ([.ref h0, .int (nI i), .int (nI k)]) ++ List.replicate (4 - (lg_sl ([.ref h0, .int (nI i), .int (nI k)])).length) Slot.unset).toArray = ls at hl ⊢
  have hl : lv_has ls 4 [(0, .ref h0), (1, .int (nI i)), (2, .int (nI k))] := hl
  refine lv_aload_n hx hb dX9_noiseBy_0 rfl (lv_at hl 0 rfl) ?_
  refine va_get (D := (dC, dI)) (ci := 9) (v := .ref a4) (C := RX9) (T := TX9) (N := 9) hx hb hg inG9 hown hK.1 hP 0 rfl rfl 6 (Nat.le_of_ble_eq_true rfl) (hg _ wt_80) (fun _ h9 => h9) rfl dX9_noiseBy_1 ?_
  refine lv_iload_n hx hb dX9_noiseBy_4 rfl (lv_at hl 2 rfl) ?_
  have tn13_ : nIT i := fun _ => nI_toInt (by omega)
  have tn14_ : nIT k := fun _ => nI_toInt (by omega)
  refine va_iald hx hb hK.1 hP 2 0 rfl rfl (vp_in_nI (by first | omega | (have t_n0 : (nI i).toInt = (i : Int) := tn13_ (); have t_n1 : (nI k).toInt = (k : Int) := tn14_ (); have t_n2 : (nI N).toInt = (N : Int) := tn10_ (); have t_n3 : (nI B).toInt = (B : Int) := tn11_ (); have t_n4 : (nI D).toInt = (D : Int) := tn12_ (); omega)) (by decide)) dX9_noiseBy_5 ?_
  refine lv_cg (y := f4 k) (by rw [nI_clamp (by omega)]) ?_
  refine lv_iconst (v := 1) hx hb dX9_noiseBy_6 rfl ?_
  refine lv_icmp_ne (tgt := 14) hx hb dX9_noiseBy_7 rfl (fun c1 => ?_) (fun c1 => ?_)
  · skip
    refine lv_aload_n hx hb dX9_noiseBy_14 rfl (lv_at hl 0 rfl) ?_
    refine va_get (D := (dC, dI)) (ci := 9) (v := .ref a4) (C := RX9) (T := TX9) (N := 9) hx hb hg inG9 hown hK.1 hP 0 rfl rfl 6 (Nat.le_of_ble_eq_true rfl) (hg _ wt_80) (fun _ h9 => h9) rfl dX9_noiseBy_15 ?_
    refine lv_iload_n hx hb dX9_noiseBy_18 rfl (lv_at hl 2 rfl) ?_
    refine va_iald hx hb hK.1 hP 2 0 rfl rfl (vp_in_nI (by first | omega | (have t_c1 := neI c1; have : (1 : Int32).toInt = 1 := qI_1; have t_n0 : (nI i).toInt = (i : Int) := tn13_ (); have t_n1 : (nI k).toInt = (k : Int) := tn14_ (); have t_n2 : (nI N).toInt = (N : Int) := tn10_ (); have t_n3 : (nI B).toInt = (B : Int) := tn11_ (); have t_n4 : (nI D).toInt = (D : Int) := tn12_ (); omega)) (by decide)) dX9_noiseBy_19 ?_
    refine lv_cg (y := f4 k) (by rw [nI_clamp (by omega)]) ?_
    refine lv_iconst (v := 3) hx hb dX9_noiseBy_20 rfl ?_
    refine lv_icmp_ne (tgt := 28) hx hb dX9_noiseBy_21 rfl (fun c2 => ?_) (fun c2 => ?_)
    · skip
      refine lv_iconst (v := 0) hx hb dX9_noiseBy_28 rfl ?_
      refine lv_istore_n (lv' := [(3, .int 0), (0, .ref h0), (1, .int (nI i)), (2, .int (nI k))]) hx hb dX9_noiseBy_29 rfl hl (by decide) rfl (fun ls hl => ?_)
      refine lv_iconst (v := 0) hx hb dX9_noiseBy_30 rfl ?_
      refine lv_aload_n hx hb dX9_noiseBy_31 rfl (lv_at hl 1 rfl) ?_
      refine va_get (D := (dC, dI)) (ci := 9) (v := .ref a1) (C := RX9) (T := TX9) (N := 9) hx hb hg inG9 hown hK.1 hP 0 rfl rfl 3 (Nat.le_of_ble_eq_true rfl) (hg _ wt_73) (fun _ h9 => h9) rfl dX9_noiseBy_32 ?_
      refine lv_iload_n hx hb dX9_noiseBy_35 rfl (lv_at hl 2 rfl) ?_
      refine va_iald hx hb hK.1 hP 1 0 rfl rfl (vp_in_nI (by first | omega | (have t_c1 := neI c1; have t_c2 := neI c2; have : (1 : Int32).toInt = 1 := qI_1; have : (3 : Int32).toInt = 3 := qI_3; have t_n0 : (nI i).toInt = (i : Int) := tn13_ (); have t_n1 : (nI k).toInt = (k : Int) := tn14_ (); have t_n2 : (nI N).toInt = (N : Int) := tn10_ (); have t_n3 : (nI B).toInt = (B : Int) := tn11_ (); have t_n4 : (nI D).toInt = (D : Int) := tn12_ (); omega)) (by decide)) dX9_noiseBy_36 ?_
      refine lv_cg (y := f1 i) (by rw [nI_clamp (by omega)]) ?_
      refine lv_iload_n hx hb dX9_noiseBy_37 rfl (lv_at hl 0 rfl) ?_
      refine lv_isub hx hb dX9_noiseBy_38 ?_
      have hPc := hP.sub (ws' := []) [] rfl
      refine va_calli (va_runS (As := [.int 0, .int ((f1 i) - 0)]) (rest := []) ⟨hx, hb, hml, hown, hg⟩ (c_J9_max l dC dI G _ 0 ((f1 i) - 0)) (kwS hg mfJ9_max_7cf53 wt_585 ⟨Nat.le_of_ble_eq_true rfl, Nat.le_of_ble_eq_true rfl⟩) (preSR hK hPc) rfl rfl hl.1 rfl (lv_room (Nat.le_of_ble_eq_true rfl)) dX9_noiseBy_39 ⟨Nat.le_of_ble_eq_true rfl, Nat.le_of_ble_eq_true rfl⟩) hS (fun q h1 h2 => absurd h2 (Nat.not_le.mpr h1)) (fun q h => hA q (Nat.le_trans hS.1 h)) (fun r3 ur3 t H1 locs ht hvm w4 hB hz1 hk1 hS => ?_)
      have hP := keepR hP hk1
      obtain ⟨w4, w4x⟩ := w4
      subst w4
      have hpost : (mx 0 ((f1 i) - 0) : Int32) = nzF (f1 i) (f4 k) := by
        unfold nzF
        (repeat' split) <;> first | rfl | contradiction | (exfalso; simp_all; done) | simp_all
      refine W.widen (k := 0) (n := 0) (Nat.le_of_ble_eq_true rfl) (Nat.le_of_ble_eq_true rfl) ?_
      exact W.iret (v := mx 0 ((f1 i) - 0)) hx hb hr (fun t ht hW => ⟨⟨mx 0 ((f1 i) - 0), (), rfl, ⟨hpost, trivial⟩, trivial⟩, hS.F ht⟩) hS.2.2 dX9_noiseBy_42
    · skip
      refine lv_iconst (v := 1) hx hb dX9_noiseBy_24 rfl ?_
      refine lv_goto (tgt := 29) hx hb dX9_noiseBy_25 rfl ?_
      refine lv_istore_n (lv' := [(3, .int 1), (0, .ref h0), (1, .int (nI i)), (2, .int (nI k))]) hx hb dX9_noiseBy_29 rfl hl (by decide) rfl (fun ls hl => ?_)
      refine lv_iconst (v := 0) hx hb dX9_noiseBy_30 rfl ?_
      refine lv_aload_n hx hb dX9_noiseBy_31 rfl (lv_at hl 1 rfl) ?_
      refine va_get (D := (dC, dI)) (ci := 9) (v := .ref a1) (C := RX9) (T := TX9) (N := 9) hx hb hg inG9 hown hK.1 hP 0 rfl rfl 3 (Nat.le_of_ble_eq_true rfl) (hg _ wt_73) (fun _ h9 => h9) rfl dX9_noiseBy_32 ?_
      refine lv_iload_n hx hb dX9_noiseBy_35 rfl (lv_at hl 2 rfl) ?_
      refine va_iald hx hb hK.1 hP 1 0 rfl rfl (vp_in_nI (by first | omega | (have t_c1 := neI c1; have t_c2 := eqI c2; have : (1 : Int32).toInt = 1 := qI_1; have : (3 : Int32).toInt = 3 := qI_3; have t_n0 : (nI i).toInt = (i : Int) := tn13_ (); have t_n1 : (nI k).toInt = (k : Int) := tn14_ (); have t_n2 : (nI N).toInt = (N : Int) := tn10_ (); have t_n3 : (nI B).toInt = (B : Int) := tn11_ (); have t_n4 : (nI D).toInt = (D : Int) := tn12_ (); omega)) (by decide)) dX9_noiseBy_36 ?_
      refine lv_cg (y := f1 i) (by rw [nI_clamp (by omega)]) ?_
      refine lv_iload_n hx hb dX9_noiseBy_37 rfl (lv_at hl 0 rfl) ?_
      refine lv_isub hx hb dX9_noiseBy_38 ?_
      have hPc := hP.sub (ws' := []) [] rfl
      refine va_calli (va_runS (As := [.int 0, .int ((f1 i) - 1)]) (rest := []) ⟨hx, hb, hml, hown, hg⟩ (c_J9_max l dC dI G _ 0 ((f1 i) - 1)) (kwS hg mfJ9_max_7cf53 wt_585 ⟨Nat.le_of_ble_eq_true rfl, Nat.le_of_ble_eq_true rfl⟩) (preSR hK hPc) rfl rfl hl.1 rfl (lv_room (Nat.le_of_ble_eq_true rfl)) dX9_noiseBy_39 ⟨Nat.le_of_ble_eq_true rfl, Nat.le_of_ble_eq_true rfl⟩) hS (fun q h1 h2 => absurd h2 (Nat.not_le.mpr h1)) (fun q h => hA q (Nat.le_trans hS.1 h)) (fun r5 ur5 t H1 locs ht hvm w6 hB hz1 hk1 hS => ?_)
      have hP := keepR hP hk1
      obtain ⟨w6, w6x⟩ := w6
      subst w6
      have hpost : (mx 0 ((f1 i) - 1) : Int32) = nzF (f1 i) (f4 k) := by
        unfold nzF
        (repeat' split) <;> first | rfl | contradiction | (exfalso; simp_all; done) | simp_all
      refine W.widen (k := 0) (n := 0) (Nat.le_of_ble_eq_true rfl) (Nat.le_of_ble_eq_true rfl) ?_
      exact W.iret (v := mx 0 ((f1 i) - 1)) hx hb hr (fun t ht hW => ⟨⟨mx 0 ((f1 i) - 1), (), rfl, ⟨hpost, trivial⟩, trivial⟩, hS.F ht⟩) hS.2.2 dX9_noiseBy_42
  · skip
    refine lv_iconst (v := 2) hx hb dX9_noiseBy_10 rfl ?_
    refine lv_goto (tgt := 29) hx hb dX9_noiseBy_11 rfl ?_
    refine lv_istore_n (lv' := [(3, .int 2), (0, .ref h0), (1, .int (nI i)), (2, .int (nI k))]) hx hb dX9_noiseBy_29 rfl hl (by decide) rfl (fun ls hl => ?_)
    refine lv_iconst (v := 0) hx hb dX9_noiseBy_30 rfl ?_
    refine lv_aload_n hx hb dX9_noiseBy_31 rfl (lv_at hl 1 rfl) ?_
    refine va_get (D := (dC, dI)) (ci := 9) (v := .ref a1) (C := RX9) (T := TX9) (N := 9) hx hb hg inG9 hown hK.1 hP 0 rfl rfl 3 (Nat.le_of_ble_eq_true rfl) (hg _ wt_73) (fun _ h9 => h9) rfl dX9_noiseBy_32 ?_
    refine lv_iload_n hx hb dX9_noiseBy_35 rfl (lv_at hl 2 rfl) ?_
    refine va_iald hx hb hK.1 hP 1 0 rfl rfl (vp_in_nI (by first | omega | (have t_c1 := eqI c1; have : (1 : Int32).toInt = 1 := qI_1; have t_n0 : (nI i).toInt = (i : Int) := tn13_ (); have t_n1 : (nI k).toInt = (k : Int) := tn14_ (); have t_n2 : (nI N).toInt = (N : Int) := tn10_ (); have t_n3 : (nI B).toInt = (B : Int) := tn11_ (); have t_n4 : (nI D).toInt = (D : Int) := tn12_ (); omega)) (by decide)) dX9_noiseBy_36 ?_
    refine lv_cg (y := f1 i) (by rw [nI_clamp (by omega)]) ?_
    refine lv_iload_n hx hb dX9_noiseBy_37 rfl (lv_at hl 0 rfl) ?_
    refine lv_isub hx hb dX9_noiseBy_38 ?_
    have hPc := hP.sub (ws' := []) [] rfl
    refine va_calli (va_runS (As := [.int 0, .int ((f1 i) - 2)]) (rest := []) ⟨hx, hb, hml, hown, hg⟩ (c_J9_max l dC dI G _ 0 ((f1 i) - 2)) (kwS hg mfJ9_max_7cf53 wt_585 ⟨Nat.le_of_ble_eq_true rfl, Nat.le_of_ble_eq_true rfl⟩) (preSR hK hPc) rfl rfl hl.1 rfl (lv_room (Nat.le_of_ble_eq_true rfl)) dX9_noiseBy_39 ⟨Nat.le_of_ble_eq_true rfl, Nat.le_of_ble_eq_true rfl⟩) hS (fun q h1 h2 => absurd h2 (Nat.not_le.mpr h1)) (fun q h => hA q (Nat.le_trans hS.1 h)) (fun r7 ur7 t H1 locs ht hvm w8 hB hz1 hk1 hS => ?_)
    have hP := keepR hP hk1
    obtain ⟨w8, w8x⟩ := w8
    subst w8
    have hpost : (mx 0 ((f1 i) - 2) : Int32) = nzF (f1 i) (f4 k) := by
      unfold nzF
      (repeat' split) <;> first | rfl | contradiction | (exfalso; simp_all; done) | simp_all
    refine W.widen (k := 0) (n := 0) (Nat.le_of_ble_eq_true rfl) (Nat.le_of_ble_eq_true rfl) ?_
    exact W.iret (v := mx 0 ((f1 i) - 2)) hx hb hr (fun t ht hW => ⟨⟨mx 0 ((f1 i) - 2), (), rfl, ⟨hpost, trivial⟩, trivial⟩, hS.F ht⟩) hS.2.2 dX9_noiseBy_42

set_option maxHeartbeats 1000000 in
set_option maxRecDepth 100000 in
theorem c_X9_coldBy (l : Launch) (dC : Nat → ClassId) (dI : Nat → Nat → Nat) (G : Nat → ClassId) (sz : Nat) (h0 a1 a2 a3 a4 a5 a6 N B D i k : Nat) (f2 f4 f6 : Nat → Int32) (hN_N : N ≤ 10) (hB_B : B ≤ 6) (hD_D : 1 ≤ D ∧ D ≤ 9) (hi : i < 10) (hk : k < 6) : Met l yX9_coldBy (Cond.code yX9_coldBy cX9_coldBy 4 (some .int) :: GT) ({ frames := 1, cells := 0, slots := 0, locals := 21 } : Room) (PcR [.ref h0, .int (nI i), .int (nI k)] dC dI G [(h0, .inr (9, [.int (nI N), .int (nI B), .int (nI D), .ref a1, .ref a2, .ref a3, .ref a4, .ref a5, .ref a6])), (a2, .inl (G 0, 10, .inl f2)), (a4, .inl (G 0, 6, .inl f4)), (a6, .inl (G 0, 6, .inl f6))] sz) (va_Qi (fun (r : Int32) (u : Unit) => match u with | _ => (r = cdF (f2 i) (f6 k) (f4 k)) ∧ True) (fun _ _ => True) (fun q : Nat => sz ≤ q)) 0 0 (fun q : Nat => sz ≤ q) := by
  have tn15_ : nIT N := fun _ => nI_toInt (by omega)
  have tn16_ : nIT B := fun _ => nI_toInt (by omega)
  have tn17_ : nIT D := fun _ => nI_toInt (by omega)
  refine Met.ofW (cc := cX9_coldBy) (maxL := 4) (ret := (some .int)) (by decide) rfl ?_
  intro p e s m args below meth c s₁ Bd hml hv
  obtain ⟨rfl, hsz, hP, hK⟩ := hv
  have hx := Bd.exec
  have hb := Bd.bytes
  have hr := Bd.returns
  have hg : ∀ w ∈ GT, w.before ([.ref h0, .int (nI i), .int (nI k)] : List Value).toArray s = true := fun w h => atoms_spec (ws := Cond.code yX9_coldBy cX9_coldBy 4 (some .int) :: GT) Bd.pre w (List.mem_cons_of_mem _ h)
  have hown : s.vm.findClass RX9 = some m.cls := findClass_of_methodNamed Bd.named
  have hlocks := Bd.notSynchronized
  subst hsz
  have hA : ∀ q : Nat, s.heap.size ≤ q → (fun q : Nat => s.heap.size ≤ q) q := fun _ h => h
  have hS : va_S (fun q : Nat => s.heap.size ≤ q) s.heap s.heap [] := va_S.rf
  have hl := lv_entry ([.ref h0, .int (nI i), .int (nI k)]) (n := 4) (Nat.le_of_ble_eq_true rfl)
  rw [lg_entry_eq]
  generalize (lg_sl ([.ref h0, .int (nI i), .int (nI k)]) ++ List.replicate (4 - (lg_sl ([.ref h0, .int (nI i), .int (nI k)])).length) Slot.unset).toArray = ls at hl ⊢
  have hl : lv_has ls 4 [(0, .ref h0), (1, .int (nI i)), (2, .int (nI k))] := hl
  refine lv_aload_n hx hb dX9_coldBy_0 rfl (lv_at hl 0 rfl) ?_
  refine va_get (D := (dC, dI)) (ci := 9) (v := .ref a4) (C := RX9) (T := TX9) (N := 9) hx hb hg inG9 hown hK.1 hP 0 rfl rfl 6 (Nat.le_of_ble_eq_true rfl) (hg _ wt_80) (fun _ h9 => h9) rfl dX9_coldBy_1 ?_
  refine lv_iload_n hx hb dX9_coldBy_4 rfl (lv_at hl 2 rfl) ?_
  have tn18_ : nIT i := fun _ => nI_toInt (by omega)
  have tn19_ : nIT k := fun _ => nI_toInt (by omega)
  refine va_iald hx hb hK.1 hP 2 0 rfl rfl (vp_in_nI (by first | omega | (have t_n0 : (nI i).toInt = (i : Int) := tn18_ (); have t_n1 : (nI k).toInt = (k : Int) := tn19_ (); have t_n2 : (nI N).toInt = (N : Int) := tn15_ (); have t_n3 : (nI B).toInt = (B : Int) := tn16_ (); have t_n4 : (nI D).toInt = (D : Int) := tn17_ (); omega)) (by decide)) dX9_coldBy_5 ?_
  refine lv_cg (y := f4 k) (by rw [nI_clamp (by omega)]) ?_
  refine lv_iconst (v := 2) hx hb dX9_coldBy_6 rfl ?_
  refine lv_icmp_ne (tgt := 24) hx hb dX9_coldBy_7 rfl (fun c1 => ?_) (fun c1 => ?_)
  · skip
    refine lv_iconst (v := 0) hx hb dX9_coldBy_24 rfl ?_
    refine lv_istore_n (lv' := [(3, .int 0), (0, .ref h0), (1, .int (nI i)), (2, .int (nI k))]) hx hb dX9_coldBy_25 rfl hl (by decide) rfl (fun ls hl => ?_)
    refine lv_iconst (v := 0) hx hb dX9_coldBy_26 rfl ?_
    refine lv_aload_n hx hb dX9_coldBy_27 rfl (lv_at hl 1 rfl) ?_
    refine va_get (D := (dC, dI)) (ci := 9) (v := .ref a2) (C := RX9) (T := TX9) (N := 9) hx hb hg inG9 hown hK.1 hP 0 rfl rfl 4 (Nat.le_of_ble_eq_true rfl) (hg _ wt_75) (fun _ h9 => h9) rfl dX9_coldBy_28 ?_
    refine lv_iload_n hx hb dX9_coldBy_31 rfl (lv_at hl 2 rfl) ?_
    refine va_iald hx hb hK.1 hP 1 0 rfl rfl (vp_in_nI (by first | omega | (have t_c1 := neI c1; have : (2 : Int32).toInt = 2 := qI_2; have t_n0 : (nI i).toInt = (i : Int) := tn18_ (); have t_n1 : (nI k).toInt = (k : Int) := tn19_ (); have t_n2 : (nI N).toInt = (N : Int) := tn15_ (); have t_n3 : (nI B).toInt = (B : Int) := tn16_ (); have t_n4 : (nI D).toInt = (D : Int) := tn17_ (); omega)) (by decide)) dX9_coldBy_32 ?_
    refine lv_cg (y := f2 i) (by rw [nI_clamp (by omega)]) ?_
    refine lv_aload_n hx hb dX9_coldBy_33 rfl (lv_at hl 1 rfl) ?_
    refine va_get (D := (dC, dI)) (ci := 9) (v := .ref a6) (C := RX9) (T := TX9) (N := 9) hx hb hg inG9 hown hK.1 hP 0 rfl rfl 8 (Nat.le_of_ble_eq_true rfl) (hg _ wt_84) (fun _ h9 => h9) rfl dX9_coldBy_34 ?_
    refine lv_iload_n hx hb dX9_coldBy_37 rfl (lv_at hl 3 rfl) ?_
    refine va_iald hx hb hK.1 hP 3 0 rfl rfl (vp_in_nI (by first | omega | (have t_c1 := neI c1; have : (2 : Int32).toInt = 2 := qI_2; have t_n0 : (nI i).toInt = (i : Int) := tn18_ (); have t_n1 : (nI k).toInt = (k : Int) := tn19_ (); have t_n2 : (nI N).toInt = (N : Int) := tn15_ (); have t_n3 : (nI B).toInt = (B : Int) := tn16_ (); have t_n4 : (nI D).toInt = (D : Int) := tn17_ (); omega)) (by decide)) dX9_coldBy_38 ?_
    refine lv_cg (y := f6 k) (by rw [nI_clamp (by omega)]) ?_
    refine lv_isub hx hb dX9_coldBy_39 ?_
    have hPc := hP.sub (ws' := []) [] rfl
    refine va_calli (va_runS (As := [.int 0, .int ((f2 i) - (f6 k))]) (rest := []) ⟨hx, hb, hml, hown, hg⟩ (c_J9_max l dC dI G _ 0 ((f2 i) - (f6 k))) (kwS hg mfJ9_max_7cf53 wt_585 ⟨Nat.le_of_ble_eq_true rfl, Nat.le_of_ble_eq_true rfl⟩) (preSR hK hPc) rfl rfl hl.1 rfl (lv_room (Nat.le_of_ble_eq_true rfl)) dX9_coldBy_40 ⟨Nat.le_of_ble_eq_true rfl, Nat.le_of_ble_eq_true rfl⟩) hS (fun q h1 h2 => absurd h2 (Nat.not_le.mpr h1)) (fun q h => hA q (Nat.le_trans hS.1 h)) (fun r2 ur2 t H1 locs ht hvm w3 hB hz1 hk1 hS => ?_)
    have hP := keepR hP hk1
    obtain ⟨w3, w3x⟩ := w3
    subst w3
    refine lv_iload_n hx hb dX9_coldBy_43 rfl (lv_at hl 0 rfl) ?_
    refine lv_iadd hx hb dX9_coldBy_44 ?_
    have hpost : ((mx 0 ((f2 i) - (f6 k))) + 0 : Int32) = cdF (f2 i) (f6 k) (f4 k) := by
      unfold cdF
      (repeat' split) <;> first | rfl | contradiction | (exfalso; simp_all; done) | simp_all
    refine W.widen (k := 0) (n := 0) (Nat.le_of_ble_eq_true rfl) (Nat.le_of_ble_eq_true rfl) ?_
    exact W.iret (v := (mx 0 ((f2 i) - (f6 k))) + 0) hx hb hr (fun t ht hW => ⟨⟨(mx 0 ((f2 i) - (f6 k))) + 0, (), rfl, ⟨hpost, trivial⟩, trivial⟩, hS.F ht⟩) hS.2.2 dX9_coldBy_45
  · skip
    refine lv_aload_n hx hb dX9_coldBy_10 rfl (lv_at hl 0 rfl) ?_
    refine va_get (D := (dC, dI)) (ci := 9) (v := .ref a2) (C := RX9) (T := TX9) (N := 9) hx hb hg inG9 hown hK.1 hP 0 rfl rfl 4 (Nat.le_of_ble_eq_true rfl) (hg _ wt_75) (fun _ h9 => h9) rfl dX9_coldBy_11 ?_
    refine lv_iload_n hx hb dX9_coldBy_14 rfl (lv_at hl 1 rfl) ?_
    refine va_iald hx hb hK.1 hP 1 0 rfl rfl (vp_in_nI (by first | omega | (have t_c1 := eqI c1; have : (2 : Int32).toInt = 2 := qI_2; have t_n0 : (nI i).toInt = (i : Int) := tn18_ (); have t_n1 : (nI k).toInt = (k : Int) := tn19_ (); have t_n2 : (nI N).toInt = (N : Int) := tn15_ (); have t_n3 : (nI B).toInt = (B : Int) := tn16_ (); have t_n4 : (nI D).toInt = (D : Int) := tn17_ (); omega)) (by decide)) dX9_coldBy_15 ?_
    refine lv_cg (y := f2 i) (by rw [nI_clamp (by omega)]) ?_
    refine lv_iconst (v := 5) hx hb dX9_coldBy_16 rfl ?_
    refine lv_icmp_lt (tgt := 24) hx hb dX9_coldBy_17 rfl (fun c4 => ?_) (fun c4 => ?_)
    · skip
      refine lv_iconst (v := 0) hx hb dX9_coldBy_24 rfl ?_
      refine lv_istore_n (lv' := [(3, .int 0), (0, .ref h0), (1, .int (nI i)), (2, .int (nI k))]) hx hb dX9_coldBy_25 rfl hl (by decide) rfl (fun ls hl => ?_)
      refine lv_iconst (v := 0) hx hb dX9_coldBy_26 rfl ?_
      refine lv_aload_n hx hb dX9_coldBy_27 rfl (lv_at hl 1 rfl) ?_
      refine va_get (D := (dC, dI)) (ci := 9) (v := .ref a2) (C := RX9) (T := TX9) (N := 9) hx hb hg inG9 hown hK.1 hP 0 rfl rfl 4 (Nat.le_of_ble_eq_true rfl) (hg _ wt_75) (fun _ h9 => h9) rfl dX9_coldBy_28 ?_
      refine lv_iload_n hx hb dX9_coldBy_31 rfl (lv_at hl 2 rfl) ?_
      refine va_iald hx hb hK.1 hP 1 0 rfl rfl (vp_in_nI (by first | omega | (have t_c1 := eqI c1; have t_c4 := ltI c4; have : (2 : Int32).toInt = 2 := qI_2; have : (5 : Int32).toInt = 5 := qI_5; have t_n0 : (nI i).toInt = (i : Int) := tn18_ (); have t_n1 : (nI k).toInt = (k : Int) := tn19_ (); have t_n2 : (nI N).toInt = (N : Int) := tn15_ (); have t_n3 : (nI B).toInt = (B : Int) := tn16_ (); have t_n4 : (nI D).toInt = (D : Int) := tn17_ (); omega)) (by decide)) dX9_coldBy_32 ?_
      refine lv_cg (y := f2 i) (by rw [nI_clamp (by omega)]) ?_
      refine lv_aload_n hx hb dX9_coldBy_33 rfl (lv_at hl 1 rfl) ?_
      refine va_get (D := (dC, dI)) (ci := 9) (v := .ref a6) (C := RX9) (T := TX9) (N := 9) hx hb hg inG9 hown hK.1 hP 0 rfl rfl 8 (Nat.le_of_ble_eq_true rfl) (hg _ wt_84) (fun _ h9 => h9) rfl dX9_coldBy_34 ?_
      refine lv_iload_n hx hb dX9_coldBy_37 rfl (lv_at hl 3 rfl) ?_
      refine va_iald hx hb hK.1 hP 3 0 rfl rfl (vp_in_nI (by first | omega | (have t_c1 := eqI c1; have t_c4 := ltI c4; have : (2 : Int32).toInt = 2 := qI_2; have : (5 : Int32).toInt = 5 := qI_5; have t_n0 : (nI i).toInt = (i : Int) := tn18_ (); have t_n1 : (nI k).toInt = (k : Int) := tn19_ (); have t_n2 : (nI N).toInt = (N : Int) := tn15_ (); have t_n3 : (nI B).toInt = (B : Int) := tn16_ (); have t_n4 : (nI D).toInt = (D : Int) := tn17_ (); omega)) (by decide)) dX9_coldBy_38 ?_
      refine lv_cg (y := f6 k) (by rw [nI_clamp (by omega)]) ?_
      refine lv_isub hx hb dX9_coldBy_39 ?_
      have hPc := hP.sub (ws' := []) [] rfl
      refine va_calli (va_runS (As := [.int 0, .int ((f2 i) - (f6 k))]) (rest := []) ⟨hx, hb, hml, hown, hg⟩ (c_J9_max l dC dI G _ 0 ((f2 i) - (f6 k))) (kwS hg mfJ9_max_7cf53 wt_585 ⟨Nat.le_of_ble_eq_true rfl, Nat.le_of_ble_eq_true rfl⟩) (preSR hK hPc) rfl rfl hl.1 rfl (lv_room (Nat.le_of_ble_eq_true rfl)) dX9_coldBy_40 ⟨Nat.le_of_ble_eq_true rfl, Nat.le_of_ble_eq_true rfl⟩) hS (fun q h1 h2 => absurd h2 (Nat.not_le.mpr h1)) (fun q h => hA q (Nat.le_trans hS.1 h)) (fun r5 ur5 t H1 locs ht hvm w6 hB hz1 hk1 hS => ?_)
      have hP := keepR hP hk1
      obtain ⟨w6, w6x⟩ := w6
      subst w6
      refine lv_iload_n hx hb dX9_coldBy_43 rfl (lv_at hl 0 rfl) ?_
      refine lv_iadd hx hb dX9_coldBy_44 ?_
      have hpost : ((mx 0 ((f2 i) - (f6 k))) + 0 : Int32) = cdF (f2 i) (f6 k) (f4 k) := by
        unfold cdF
        (repeat' split) <;> first | rfl | contradiction | (exfalso; simp_all; done) | simp_all
      refine W.widen (k := 0) (n := 0) (Nat.le_of_ble_eq_true rfl) (Nat.le_of_ble_eq_true rfl) ?_
      exact W.iret (v := (mx 0 ((f2 i) - (f6 k))) + 0) hx hb hr (fun t ht hW => ⟨⟨(mx 0 ((f2 i) - (f6 k))) + 0, (), rfl, ⟨hpost, trivial⟩, trivial⟩, hS.F ht⟩) hS.2.2 dX9_coldBy_45
    · skip
      refine lv_iconst (v := 1) hx hb dX9_coldBy_20 rfl ?_
      refine lv_goto (tgt := 25) hx hb dX9_coldBy_21 rfl ?_
      refine lv_istore_n (lv' := [(3, .int 1), (0, .ref h0), (1, .int (nI i)), (2, .int (nI k))]) hx hb dX9_coldBy_25 rfl hl (by decide) rfl (fun ls hl => ?_)
      refine lv_iconst (v := 0) hx hb dX9_coldBy_26 rfl ?_
      refine lv_aload_n hx hb dX9_coldBy_27 rfl (lv_at hl 1 rfl) ?_
      refine va_get (D := (dC, dI)) (ci := 9) (v := .ref a2) (C := RX9) (T := TX9) (N := 9) hx hb hg inG9 hown hK.1 hP 0 rfl rfl 4 (Nat.le_of_ble_eq_true rfl) (hg _ wt_75) (fun _ h9 => h9) rfl dX9_coldBy_28 ?_
      refine lv_iload_n hx hb dX9_coldBy_31 rfl (lv_at hl 2 rfl) ?_
      refine va_iald hx hb hK.1 hP 1 0 rfl rfl (vp_in_nI (by first | omega | (have t_c1 := eqI c1; have t_c4 := nltI c4; have : (2 : Int32).toInt = 2 := qI_2; have : (5 : Int32).toInt = 5 := qI_5; have t_n0 : (nI i).toInt = (i : Int) := tn18_ (); have t_n1 : (nI k).toInt = (k : Int) := tn19_ (); have t_n2 : (nI N).toInt = (N : Int) := tn15_ (); have t_n3 : (nI B).toInt = (B : Int) := tn16_ (); have t_n4 : (nI D).toInt = (D : Int) := tn17_ (); omega)) (by decide)) dX9_coldBy_32 ?_
      refine lv_cg (y := f2 i) (by rw [nI_clamp (by omega)]) ?_
      refine lv_aload_n hx hb dX9_coldBy_33 rfl (lv_at hl 1 rfl) ?_
      refine va_get (D := (dC, dI)) (ci := 9) (v := .ref a6) (C := RX9) (T := TX9) (N := 9) hx hb hg inG9 hown hK.1 hP 0 rfl rfl 8 (Nat.le_of_ble_eq_true rfl) (hg _ wt_84) (fun _ h9 => h9) rfl dX9_coldBy_34 ?_
      refine lv_iload_n hx hb dX9_coldBy_37 rfl (lv_at hl 3 rfl) ?_
      refine va_iald hx hb hK.1 hP 3 0 rfl rfl (vp_in_nI (by first | omega | (have t_c1 := eqI c1; have t_c4 := nltI c4; have : (2 : Int32).toInt = 2 := qI_2; have : (5 : Int32).toInt = 5 := qI_5; have t_n0 : (nI i).toInt = (i : Int) := tn18_ (); have t_n1 : (nI k).toInt = (k : Int) := tn19_ (); have t_n2 : (nI N).toInt = (N : Int) := tn15_ (); have t_n3 : (nI B).toInt = (B : Int) := tn16_ (); have t_n4 : (nI D).toInt = (D : Int) := tn17_ (); omega)) (by decide)) dX9_coldBy_38 ?_
      refine lv_cg (y := f6 k) (by rw [nI_clamp (by omega)]) ?_
      refine lv_isub hx hb dX9_coldBy_39 ?_
      have hPc := hP.sub (ws' := []) [] rfl
      refine va_calli (va_runS (As := [.int 0, .int ((f2 i) - (f6 k))]) (rest := []) ⟨hx, hb, hml, hown, hg⟩ (c_J9_max l dC dI G _ 0 ((f2 i) - (f6 k))) (kwS hg mfJ9_max_7cf53 wt_585 ⟨Nat.le_of_ble_eq_true rfl, Nat.le_of_ble_eq_true rfl⟩) (preSR hK hPc) rfl rfl hl.1 rfl (lv_room (Nat.le_of_ble_eq_true rfl)) dX9_coldBy_40 ⟨Nat.le_of_ble_eq_true rfl, Nat.le_of_ble_eq_true rfl⟩) hS (fun q h1 h2 => absurd h2 (Nat.not_le.mpr h1)) (fun q h => hA q (Nat.le_trans hS.1 h)) (fun r7 ur7 t H1 locs ht hvm w8 hB hz1 hk1 hS => ?_)
      have hP := keepR hP hk1
      obtain ⟨w8, w8x⟩ := w8
      subst w8
      refine lv_iload_n hx hb dX9_coldBy_43 rfl (lv_at hl 0 rfl) ?_
      refine lv_iadd hx hb dX9_coldBy_44 ?_
      have hpost : ((mx 0 ((f2 i) - (f6 k))) + 1 : Int32) = cdF (f2 i) (f6 k) (f4 k) := by
        unfold cdF
        (repeat' split) <;> first | rfl | contradiction | (exfalso; simp_all; done) | simp_all
      refine W.widen (k := 0) (n := 0) (Nat.le_of_ble_eq_true rfl) (Nat.le_of_ble_eq_true rfl) ?_
      exact W.iret (v := (mx 0 ((f2 i) - (f6 k))) + 1) hx hb hr (fun t ht hW => ⟨⟨(mx 0 ((f2 i) - (f6 k))) + 1, (), rfl, ⟨hpost, trivial⟩, trivial⟩, hS.F ht⟩) hS.2.2 dX9_coldBy_45

set_option maxHeartbeats 1000000 in
set_option maxRecDepth 100000 in
theorem c_X9_joltBy (l : Launch) (dC : Nat → ClassId) (dI : Nat → Nat → Nat) (G : Nat → ClassId) (sz : Nat) (h0 a1 a2 a3 a4 a5 a6 N B D k : Nat) (g : Int32) (f4 f5 : Nat → Int32) (hN_N : N ≤ 10) (hB_B : B ≤ 6) (hD_D : 1 ≤ D ∧ D ≤ 9) (hg0 : g.toInt = -4 ∨ (0 ≤ g.toInt ∧ g.toInt < 6)) (hk : k < 6) : Met l yX9_joltBy (Cond.code yX9_joltBy cX9_joltBy 4 (some .int) :: GT) ({ frames := 1, cells := 0, slots := 0, locals := 20 } : Room) (PcR [.ref h0, .int g, .int (nI k)] dC dI G [(h0, .inr (9, [.int (nI N), .int (nI B), .int (nI D), .ref a1, .ref a2, .ref a3, .ref a4, .ref a5, .ref a6])), (a4, .inl (G 0, 6, .inl f4)), (a5, .inl (G 0, 6, .inl f5))] sz) (va_Qi (fun (r : Int32) (u : Unit) => match u with | _ => (r = jlF g k f4 f5) ∧ True) (fun _ _ => True) (fun q : Nat => sz ≤ q)) 0 0 (fun q : Nat => sz ≤ q) := by
  have tn20_ : nIT N := fun _ => nI_toInt (by omega)
  have tn21_ : nIT B := fun _ => nI_toInt (by omega)
  have tn22_ : nIT D := fun _ => nI_toInt (by omega)
  refine Met.ofW (cc := cX9_joltBy) (maxL := 4) (ret := (some .int)) (by decide) rfl ?_
  intro p e s m args below meth c s₁ Bd hml hv
  obtain ⟨rfl, hsz, hP, hK⟩ := hv
  have hx := Bd.exec
  have hb := Bd.bytes
  have hr := Bd.returns
  have hg : ∀ w ∈ GT, w.before ([.ref h0, .int g, .int (nI k)] : List Value).toArray s = true := fun w h => atoms_spec (ws := Cond.code yX9_joltBy cX9_joltBy 4 (some .int) :: GT) Bd.pre w (List.mem_cons_of_mem _ h)
  have hown : s.vm.findClass RX9 = some m.cls := findClass_of_methodNamed Bd.named
  have hlocks := Bd.notSynchronized
  subst hsz
  have hA : ∀ q : Nat, s.heap.size ≤ q → (fun q : Nat => s.heap.size ≤ q) q := fun _ h => h
  have hS : va_S (fun q : Nat => s.heap.size ≤ q) s.heap s.heap [] := va_S.rf
  have hl := lv_entry ([.ref h0, .int g, .int (nI k)]) (n := 4) (Nat.le_of_ble_eq_true rfl)
  rw [lg_entry_eq]
  generalize (lg_sl ([.ref h0, .int g, .int (nI k)]) ++ List.replicate (4 - (lg_sl ([.ref h0, .int g, .int (nI k)])).length) Slot.unset).toArray = ls at hl ⊢
  have hl : lv_has ls 4 [(0, .ref h0), (1, .int g), (2, .int (nI k))] := hl
  refine lv_iload_n hx hb dX9_joltBy_0 rfl (lv_at hl 1 rfl) ?_
  refine lv_bipush (v := (-4)) hx hb dX9_joltBy_1 rfl ?_
  refine lv_icmp_eq (tgt := 31) hx hb dX9_joltBy_3 rfl (fun c1 => ?_) (fun c1 => ?_)
  · skip
    refine lv_iconst (v := 0) hx hb dX9_joltBy_31 rfl ?_
    have hpost : (0 : Int32) = jlF g k f4 f5 := by
      unfold jlF
      (repeat' split) <;> first | rfl | contradiction | (exfalso; simp_all; done) | simp_all
    refine W.widen (k := 0) (n := 0) (Nat.le_of_ble_eq_true rfl) (Nat.le_of_ble_eq_true rfl) ?_
    exact W.iret (v := 0) hx hb hr (fun t ht hW => ⟨⟨0, (), rfl, ⟨hpost, trivial⟩, trivial⟩, hS.F ht⟩) hS.2.2 dX9_joltBy_32
  · skip
    obtain ⟨gg, hgg, rfl⟩ : ∃ j : Nat, j < 6 ∧ g = nI j := by
      have t_c1 := neI c1
      have : ((-4) : Int32).toInt = -4 := qI_m4
      have tn23_ : nIT k := fun _ => nI_toInt (by omega)
      have t_n0 : (nI k).toInt = (k : Int) := tn23_ ()
      have t_n1 : (nI N).toInt = (N : Int) := tn20_ ()
      have t_n2 : (nI B).toInt = (B : Int) := tn21_ ()
      have t_n3 : (nI D).toInt = (D : Int) := tn22_ ()
      exact i32_nat (by omega) (by omega)
    refine lv_iload_n hx hb dX9_joltBy_6 rfl (lv_at hl 1 rfl) ?_
    refine lv_iload_n hx hb dX9_joltBy_7 rfl (lv_at hl 2 rfl) ?_
    refine lv_icmp_eq (tgt := 31) hx hb dX9_joltBy_8 rfl (fun c2 => ?_) (fun c2 => ?_)
    · skip
      have tn24_ : nIT gg := fun _ => nI_toInt (by first | omega | (have t := eqI c2; omega))
      have tn25_ : nIT k := fun _ => nI_toInt (by omega)
      have n3 : gg = k := by have t := eqI c2; rw [show (nI (gg)).toInt = ((gg : Nat) : Int) from tn24_ ()] at t; rw [show (nI (k)).toInt = ((k : Nat) : Int) from tn25_ ()] at t; omega
      refine lv_iconst (v := 0) hx hb dX9_joltBy_31 rfl ?_
      have hpost : (0 : Int32) = jlF (nI gg) k f4 f5 := by
        unfold jlF
        rw [nI_clamp (by omega)]
        (repeat' split) <;> first | rfl | contradiction | (exfalso; simp_all; done) | simp_all
      refine W.widen (k := 0) (n := 0) (Nat.le_of_ble_eq_true rfl) (Nat.le_of_ble_eq_true rfl) ?_
      exact W.iret (v := 0) hx hb hr (fun t ht hW => ⟨⟨0, (), rfl, ⟨hpost, trivial⟩, trivial⟩, hS.F ht⟩) hS.2.2 dX9_joltBy_32
    · skip
      have tn26_ : nIT gg := fun _ => nI_toInt (by first | omega | (have t := neI c2; omega))
      have tn27_ : nIT k := fun _ => nI_toInt (by omega)
      have n4 : gg ≠ k := by have t := neI c2; rw [show (nI (gg)).toInt = ((gg : Nat) : Int) from tn26_ ()] at t; rw [show (nI (k)).toInt = ((k : Nat) : Int) from tn27_ ()] at t; omega
      refine lv_aload_n hx hb dX9_joltBy_11 rfl (lv_at hl 0 rfl) ?_
      refine va_get (D := (dC, dI)) (ci := 9) (v := .ref a4) (C := RX9) (T := TX9) (N := 9) hx hb hg inG9 hown hK.1 hP 0 rfl rfl 6 (Nat.le_of_ble_eq_true rfl) (hg _ wt_80) (fun _ h9 => h9) rfl dX9_joltBy_12 ?_
      refine lv_iload_n hx hb dX9_joltBy_15 rfl (lv_at hl 1 rfl) ?_
      refine va_iald hx hb hK.1 hP 1 0 rfl rfl (vp_in_nI (by first | omega | (have t_c1 := neI c1; have t_hgg := hgg; have t_n4 := n4; have : ((-4) : Int32).toInt = -4 := qI_m4; have t_n0 : (nI k).toInt = (k : Int) := tn27_ (); have t_n1 : (nI N).toInt = (N : Int) := tn20_ (); have t_n2 : (nI B).toInt = (B : Int) := tn21_ (); have t_n3 : (nI D).toInt = (D : Int) := tn22_ (); have t_n4 : (nI gg).toInt = (gg : Int) := tn26_ (); omega)) (by decide)) dX9_joltBy_16 ?_
      refine lv_cg (y := f4 gg) (by rw [nI_clamp (by omega)]) ?_
      refine lv_iconst (v := 4) hx hb dX9_joltBy_17 rfl ?_
      refine lv_icmp_ne (tgt := 33) hx hb dX9_joltBy_18 rfl (fun c5 => ?_) (fun c5 => ?_)
      · skip
        refine lv_aload_n hx hb dX9_joltBy_33 rfl (lv_at hl 0 rfl) ?_
        refine va_get (D := (dC, dI)) (ci := 9) (v := .ref a5) (C := RX9) (T := TX9) (N := 9) hx hb hg inG9 hown hK.1 hP 0 rfl rfl 7 (Nat.le_of_ble_eq_true rfl) (hg _ wt_82) (fun _ h9 => h9) rfl dX9_joltBy_34 ?_
        refine lv_iload_n hx hb dX9_joltBy_37 rfl (lv_at hl 1 rfl) ?_
        refine va_iald hx hb hK.1 hP 2 0 rfl rfl (vp_in_nI (by first | omega | (have t_c1 := neI c1; have t_hgg := hgg; have t_n4 := n4; have t_c5 := neI c5; have : ((-4) : Int32).toInt = -4 := qI_m4; have : (4 : Int32).toInt = 4 := qI_4; have t_n0 : (nI k).toInt = (k : Int) := tn27_ (); have t_n1 : (nI N).toInt = (N : Int) := tn20_ (); have t_n2 : (nI B).toInt = (B : Int) := tn21_ (); have t_n3 : (nI D).toInt = (D : Int) := tn22_ (); have t_n4 : (nI gg).toInt = (gg : Int) := tn26_ (); omega)) (by decide)) dX9_joltBy_38 ?_
        refine lv_cg (y := f5 gg) (by rw [nI_clamp (by omega)]) ?_
        refine lv_aload_n hx hb dX9_joltBy_39 rfl (lv_at hl 0 rfl) ?_
        refine va_get (D := (dC, dI)) (ci := 9) (v := .ref a5) (C := RX9) (T := TX9) (N := 9) hx hb hg inG9 hown hK.1 hP 0 rfl rfl 7 (Nat.le_of_ble_eq_true rfl) (hg _ wt_82) (fun _ h9 => h9) rfl dX9_joltBy_40 ?_
        refine lv_iload_n hx hb dX9_joltBy_43 rfl (lv_at hl 2 rfl) ?_
        refine va_iald hx hb hK.1 hP 2 0 rfl rfl (vp_in_nI (by first | omega | (have t_c1 := neI c1; have t_hgg := hgg; have t_n4 := n4; have t_c5 := neI c5; have : ((-4) : Int32).toInt = -4 := qI_m4; have : (4 : Int32).toInt = 4 := qI_4; have t_n0 : (nI k).toInt = (k : Int) := tn27_ (); have t_n1 : (nI N).toInt = (N : Int) := tn20_ (); have t_n2 : (nI B).toInt = (B : Int) := tn21_ (); have t_n3 : (nI D).toInt = (D : Int) := tn22_ (); have t_n4 : (nI gg).toInt = (gg : Int) := tn26_ (); omega)) (by decide)) dX9_joltBy_44 ?_
        refine lv_cg (y := f5 k) (by rw [nI_clamp (by omega)]) ?_
        refine lv_isub hx hb dX9_joltBy_45 ?_
        have hPc := hP.sub (ws' := []) [] rfl
        refine va_calli (va_runS (As := [.int ((f5 gg) - (f5 k))]) (rest := []) ⟨hx, hb, hml, hown, hg⟩ (c_J9_abs l dC dI G _ ((f5 gg) - (f5 k))) (kwS hg mfJ9_abs_0f7a4 wt_594 ⟨Nat.le_of_ble_eq_true rfl, Nat.le_of_ble_eq_true rfl⟩) (preSR hK hPc) rfl rfl hl.1 rfl (lv_room (Nat.le_of_ble_eq_true rfl)) dX9_joltBy_46 ⟨Nat.le_of_ble_eq_true rfl, Nat.le_of_ble_eq_true rfl⟩) hS (fun q h1 h2 => absurd h2 (Nat.not_le.mpr h1)) (fun q h => hA q (Nat.le_trans hS.1 h)) (fun r6 ur6 t H1 locs ht hvm w7 hB hz1 hk1 hS => ?_)
        have hP := keepR hP hk1
        obtain ⟨w7, w7x⟩ := w7
        subst w7
        refine lv_istore_n (lv' := [(3, .int (ab ((f5 gg) - (f5 k)))), (0, .ref h0), (1, .int (nI gg)), (2, .int (nI k))]) hx hb dX9_joltBy_49 rfl hl (by decide) rfl (fun ls hl => ?_)
        refine lv_aload_n hx hb dX9_joltBy_50 rfl (lv_at hl 1 rfl) ?_
        refine va_get (D := (dC, dI)) (ci := 9) (v := .ref a4) (C := RX9) (T := TX9) (N := 9) hx hb hg inG9 hown hK.1 hP 0 rfl rfl 6 (Nat.le_of_ble_eq_true rfl) (hg _ wt_80) (fun _ h9 => h9) rfl dX9_joltBy_51 ?_
        refine lv_iload_n hx hb dX9_joltBy_54 rfl (lv_at hl 3 rfl) ?_
        refine va_iald hx hb hK.1 hP 1 0 rfl rfl (vp_in_nI (by first | omega | (have t_c1 := neI c1; have t_hgg := hgg; have t_n4 := n4; have t_c5 := neI c5; have : ((-4) : Int32).toInt = -4 := qI_m4; have : (4 : Int32).toInt = 4 := qI_4; have t_n0 : (nI k).toInt = (k : Int) := tn27_ (); have t_n1 : (nI N).toInt = (N : Int) := tn20_ (); have t_n2 : (nI B).toInt = (B : Int) := tn21_ (); have t_n3 : (nI D).toInt = (D : Int) := tn22_ (); have t_n4 : (nI gg).toInt = (gg : Int) := tn26_ (); omega)) (by decide)) dX9_joltBy_55 ?_
        refine lv_cg (y := f4 k) (by rw [nI_clamp (by omega)]) ?_
        refine lv_iconst (v := 5) hx hb dX9_joltBy_56 rfl ?_
        refine lv_icmp_ne (tgt := 66) hx hb dX9_joltBy_57 rfl (fun c8 => ?_) (fun c8 => ?_)
        · skip
          refine lv_iload_n hx hb dX9_joltBy_66 rfl (lv_at hl 0 rfl) ?_
          have hpost : (ab ((f5 gg) - (f5 k)) : Int32) = jlF (nI gg) k f4 f5 := by
            unfold jlF
            rw [nI_clamp (by omega)]
            (repeat' split) <;> first | rfl | contradiction | (exfalso; simp_all; done) | simp_all
          refine W.widen (k := 0) (n := 0) (Nat.le_of_ble_eq_true rfl) (Nat.le_of_ble_eq_true rfl) ?_
          exact W.iret (v := ab ((f5 gg) - (f5 k))) hx hb hr (fun t ht hW => ⟨⟨ab ((f5 gg) - (f5 k)), (), rfl, ⟨hpost, trivial⟩, trivial⟩, hS.F ht⟩) hS.2.2 dX9_joltBy_67
        · skip
          refine lv_iload_n hx hb dX9_joltBy_60 rfl (lv_at hl 0 rfl) ?_
          refine lv_iconst (v := 2) hx hb dX9_joltBy_61 rfl ?_
          refine lv_idiv hx hb dX9_joltBy_62 (by decide) ?_
          refine lv_goto (tgt := 67) hx hb dX9_joltBy_63 rfl ?_
          have hpost : ((ab ((f5 gg) - (f5 k))) / 2 : Int32) = jlF (nI gg) k f4 f5 := by
            unfold jlF
            rw [nI_clamp (by omega)]
            (repeat' split) <;> first | rfl | contradiction | (exfalso; simp_all; done) | simp_all
          refine W.widen (k := 0) (n := 0) (Nat.le_of_ble_eq_true rfl) (Nat.le_of_ble_eq_true rfl) ?_
          exact W.iret (v := (ab ((f5 gg) - (f5 k))) / 2) hx hb hr (fun t ht hW => ⟨⟨(ab ((f5 gg) - (f5 k))) / 2, (), rfl, ⟨hpost, trivial⟩, trivial⟩, hS.F ht⟩) hS.2.2 dX9_joltBy_67
      · skip
        refine lv_aload_n hx hb dX9_joltBy_21 rfl (lv_at hl 0 rfl) ?_
        refine va_get (D := (dC, dI)) (ci := 9) (v := .ref a4) (C := RX9) (T := TX9) (N := 9) hx hb hg inG9 hown hK.1 hP 0 rfl rfl 6 (Nat.le_of_ble_eq_true rfl) (hg _ wt_80) (fun _ h9 => h9) rfl dX9_joltBy_22 ?_
        refine lv_iload_n hx hb dX9_joltBy_25 rfl (lv_at hl 2 rfl) ?_
        refine va_iald hx hb hK.1 hP 1 0 rfl rfl (vp_in_nI (by first | omega | (have t_c1 := neI c1; have t_hgg := hgg; have t_n4 := n4; have t_c5 := eqI c5; have : ((-4) : Int32).toInt = -4 := qI_m4; have : (4 : Int32).toInt = 4 := qI_4; have t_n0 : (nI k).toInt = (k : Int) := tn27_ (); have t_n1 : (nI N).toInt = (N : Int) := tn20_ (); have t_n2 : (nI B).toInt = (B : Int) := tn21_ (); have t_n3 : (nI D).toInt = (D : Int) := tn22_ (); have t_n4 : (nI gg).toInt = (gg : Int) := tn26_ (); omega)) (by decide)) dX9_joltBy_26 ?_
        refine lv_cg (y := f4 k) (by rw [nI_clamp (by omega)]) ?_
        refine lv_iconst (v := 4) hx hb dX9_joltBy_27 rfl ?_
        refine lv_icmp_ne (tgt := 33) hx hb dX9_joltBy_28 rfl (fun c9 => ?_) (fun c9 => ?_)
        · skip
          refine lv_aload_n hx hb dX9_joltBy_33 rfl (lv_at hl 0 rfl) ?_
          refine va_get (D := (dC, dI)) (ci := 9) (v := .ref a5) (C := RX9) (T := TX9) (N := 9) hx hb hg inG9 hown hK.1 hP 0 rfl rfl 7 (Nat.le_of_ble_eq_true rfl) (hg _ wt_82) (fun _ h9 => h9) rfl dX9_joltBy_34 ?_
          refine lv_iload_n hx hb dX9_joltBy_37 rfl (lv_at hl 1 rfl) ?_
          refine va_iald hx hb hK.1 hP 2 0 rfl rfl (vp_in_nI (by first | omega | (have t_c1 := neI c1; have t_hgg := hgg; have t_n4 := n4; have t_c5 := eqI c5; have t_c9 := neI c9; have : ((-4) : Int32).toInt = -4 := qI_m4; have : (4 : Int32).toInt = 4 := qI_4; have t_n0 : (nI k).toInt = (k : Int) := tn27_ (); have t_n1 : (nI N).toInt = (N : Int) := tn20_ (); have t_n2 : (nI B).toInt = (B : Int) := tn21_ (); have t_n3 : (nI D).toInt = (D : Int) := tn22_ (); have t_n4 : (nI gg).toInt = (gg : Int) := tn26_ (); omega)) (by decide)) dX9_joltBy_38 ?_
          refine lv_cg (y := f5 gg) (by rw [nI_clamp (by omega)]) ?_
          refine lv_aload_n hx hb dX9_joltBy_39 rfl (lv_at hl 0 rfl) ?_
          refine va_get (D := (dC, dI)) (ci := 9) (v := .ref a5) (C := RX9) (T := TX9) (N := 9) hx hb hg inG9 hown hK.1 hP 0 rfl rfl 7 (Nat.le_of_ble_eq_true rfl) (hg _ wt_82) (fun _ h9 => h9) rfl dX9_joltBy_40 ?_
          refine lv_iload_n hx hb dX9_joltBy_43 rfl (lv_at hl 2 rfl) ?_
          refine va_iald hx hb hK.1 hP 2 0 rfl rfl (vp_in_nI (by first | omega | (have t_c1 := neI c1; have t_hgg := hgg; have t_n4 := n4; have t_c5 := eqI c5; have t_c9 := neI c9; have : ((-4) : Int32).toInt = -4 := qI_m4; have : (4 : Int32).toInt = 4 := qI_4; have t_n0 : (nI k).toInt = (k : Int) := tn27_ (); have t_n1 : (nI N).toInt = (N : Int) := tn20_ (); have t_n2 : (nI B).toInt = (B : Int) := tn21_ (); have t_n3 : (nI D).toInt = (D : Int) := tn22_ (); have t_n4 : (nI gg).toInt = (gg : Int) := tn26_ (); omega)) (by decide)) dX9_joltBy_44 ?_
          refine lv_cg (y := f5 k) (by rw [nI_clamp (by omega)]) ?_
          refine lv_isub hx hb dX9_joltBy_45 ?_
          have hPc := hP.sub (ws' := []) [] rfl
          refine va_calli (va_runS (As := [.int ((f5 gg) - (f5 k))]) (rest := []) ⟨hx, hb, hml, hown, hg⟩ (c_J9_abs l dC dI G _ ((f5 gg) - (f5 k))) (kwS hg mfJ9_abs_0f7a4 wt_594 ⟨Nat.le_of_ble_eq_true rfl, Nat.le_of_ble_eq_true rfl⟩) (preSR hK hPc) rfl rfl hl.1 rfl (lv_room (Nat.le_of_ble_eq_true rfl)) dX9_joltBy_46 ⟨Nat.le_of_ble_eq_true rfl, Nat.le_of_ble_eq_true rfl⟩) hS (fun q h1 h2 => absurd h2 (Nat.not_le.mpr h1)) (fun q h => hA q (Nat.le_trans hS.1 h)) (fun r10 ur10 t H1 locs ht hvm w11 hB hz1 hk1 hS => ?_)
          have hP := keepR hP hk1
          obtain ⟨w11, w11x⟩ := w11
          subst w11
          refine lv_istore_n (lv' := [(3, .int (ab ((f5 gg) - (f5 k)))), (0, .ref h0), (1, .int (nI gg)), (2, .int (nI k))]) hx hb dX9_joltBy_49 rfl hl (by decide) rfl (fun ls hl => ?_)
          refine lv_aload_n hx hb dX9_joltBy_50 rfl (lv_at hl 1 rfl) ?_
          refine va_get (D := (dC, dI)) (ci := 9) (v := .ref a4) (C := RX9) (T := TX9) (N := 9) hx hb hg inG9 hown hK.1 hP 0 rfl rfl 6 (Nat.le_of_ble_eq_true rfl) (hg _ wt_80) (fun _ h9 => h9) rfl dX9_joltBy_51 ?_
          refine lv_iload_n hx hb dX9_joltBy_54 rfl (lv_at hl 3 rfl) ?_
          refine va_iald hx hb hK.1 hP 1 0 rfl rfl (vp_in_nI (by first | omega | (have t_c1 := neI c1; have t_hgg := hgg; have t_n4 := n4; have t_c5 := eqI c5; have t_c9 := neI c9; have : ((-4) : Int32).toInt = -4 := qI_m4; have : (4 : Int32).toInt = 4 := qI_4; have t_n0 : (nI k).toInt = (k : Int) := tn27_ (); have t_n1 : (nI N).toInt = (N : Int) := tn20_ (); have t_n2 : (nI B).toInt = (B : Int) := tn21_ (); have t_n3 : (nI D).toInt = (D : Int) := tn22_ (); have t_n4 : (nI gg).toInt = (gg : Int) := tn26_ (); omega)) (by decide)) dX9_joltBy_55 ?_
          refine lv_cg (y := f4 k) (by rw [nI_clamp (by omega)]) ?_
          refine lv_iconst (v := 5) hx hb dX9_joltBy_56 rfl ?_
          refine lv_icmp_ne (tgt := 66) hx hb dX9_joltBy_57 rfl (fun c12 => ?_) (fun c12 => ?_)
          · skip
            refine lv_iload_n hx hb dX9_joltBy_66 rfl (lv_at hl 0 rfl) ?_
            have hpost : (ab ((f5 gg) - (f5 k)) : Int32) = jlF (nI gg) k f4 f5 := by
              unfold jlF
              rw [nI_clamp (by omega)]
              (repeat' split) <;> first | rfl | contradiction | (exfalso; simp_all; done) | simp_all
            refine W.widen (k := 0) (n := 0) (Nat.le_of_ble_eq_true rfl) (Nat.le_of_ble_eq_true rfl) ?_
            exact W.iret (v := ab ((f5 gg) - (f5 k))) hx hb hr (fun t ht hW => ⟨⟨ab ((f5 gg) - (f5 k)), (), rfl, ⟨hpost, trivial⟩, trivial⟩, hS.F ht⟩) hS.2.2 dX9_joltBy_67
          · skip
            refine lv_iload_n hx hb dX9_joltBy_60 rfl (lv_at hl 0 rfl) ?_
            refine lv_iconst (v := 2) hx hb dX9_joltBy_61 rfl ?_
            refine lv_idiv hx hb dX9_joltBy_62 (by decide) ?_
            refine lv_goto (tgt := 67) hx hb dX9_joltBy_63 rfl ?_
            have hpost : ((ab ((f5 gg) - (f5 k))) / 2 : Int32) = jlF (nI gg) k f4 f5 := by
              unfold jlF
              rw [nI_clamp (by omega)]
              (repeat' split) <;> first | rfl | contradiction | (exfalso; simp_all; done) | simp_all
            refine W.widen (k := 0) (n := 0) (Nat.le_of_ble_eq_true rfl) (Nat.le_of_ble_eq_true rfl) ?_
            exact W.iret (v := (ab ((f5 gg) - (f5 k))) / 2) hx hb hr (fun t ht hW => ⟨⟨(ab ((f5 gg) - (f5 k))) / 2, (), rfl, ⟨hpost, trivial⟩, trivial⟩, hS.F ht⟩) hS.2.2 dX9_joltBy_67
        · skip
          refine lv_iconst (v := 0) hx hb dX9_joltBy_31 rfl ?_
          have hpost : (0 : Int32) = jlF (nI gg) k f4 f5 := by
            unfold jlF
            rw [nI_clamp (by omega)]
            (repeat' split) <;> first | rfl | contradiction | (exfalso; simp_all; done) | simp_all
          refine W.widen (k := 0) (n := 0) (Nat.le_of_ble_eq_true rfl) (Nat.le_of_ble_eq_true rfl) ?_
          exact W.iret (v := 0) hx hb hr (fun t ht hW => ⟨⟨0, (), rfl, ⟨hpost, trivial⟩, trivial⟩, hS.F ht⟩) hS.2.2 dX9_joltBy_32

set_option maxHeartbeats 1000000 in
set_option maxRecDepth 100000 in
theorem c_X9_harmBy (l : Launch) (dC : Nat → ClassId) (dI : Nat → Nat → Nat) (G : Nat → ClassId) (sz : Nat) (h0 a1 a2 a3 a4 a5 a6 N B D : Nat) (i g k : Int32) (f1 f2 f4 f5 f6 : Nat → Int32) (hN_N : N ≤ 10) (hB_B : B ≤ 6) (hD_D : 1 ≤ D ∧ D ≤ 9) : Met l yX9_harmBy (Cond.code yX9_harmBy cX9_harmBy 4 (some .int) :: GT) ({ frames := 2, cells := 0, slots := 0, locals := 44 } : Room) (PcR [.ref h0, .int i, .int g, .int k] dC dI G [(h0, .inr (9, [.int (nI N), .int (nI B), .int (nI D), .ref a1, .ref a2, .ref a3, .ref a4, .ref a5, .ref a6])), (a1, .inl (G 0, 10, .inl f1)), (a2, .inl (G 0, 10, .inl f2)), (a4, .inl (G 0, 6, .inl f4)), (a5, .inl (G 0, 6, .inl f5)), (a6, .inl (G 0, 6, .inl f6))] sz) (va_Qi (fun (r : Int32) (u : Unit) => match u with | _ => (r = hmF N B f1 f2 f4 f5 f6 i g k) ∧ True) (fun _ _ => True) (fun q : Nat => sz ≤ q)) 0 0 (fun q : Nat => sz ≤ q) := by
  have tn28_ : nIT N := fun _ => nI_toInt (by omega)
  have tn29_ : nIT B := fun _ => nI_toInt (by omega)
  have tn30_ : nIT D := fun _ => nI_toInt (by omega)
  refine Met.ofW (cc := cX9_harmBy) (maxL := 4) (ret := (some .int)) (by decide) rfl ?_
  intro p e s m args below meth c s₁ Bd hml hv
  obtain ⟨rfl, hsz, hP, hK⟩ := hv
  have hx := Bd.exec
  have hb := Bd.bytes
  have hr := Bd.returns
  have hg : ∀ w ∈ GT, w.before ([.ref h0, .int i, .int g, .int k] : List Value).toArray s = true := fun w h => atoms_spec (ws := Cond.code yX9_harmBy cX9_harmBy 4 (some .int) :: GT) Bd.pre w (List.mem_cons_of_mem _ h)
  have hown : s.vm.findClass RX9 = some m.cls := findClass_of_methodNamed Bd.named
  have hlocks := Bd.notSynchronized
  subst hsz
  have hA : ∀ q : Nat, s.heap.size ≤ q → (fun q : Nat => s.heap.size ≤ q) q := fun _ h => h
  have hS : va_S (fun q : Nat => s.heap.size ≤ q) s.heap s.heap [] := va_S.rf
  have hl := lv_entry ([.ref h0, .int i, .int g, .int k]) (n := 4) (Nat.le_of_ble_eq_true rfl)
  rw [lg_entry_eq]
  generalize (lg_sl ([.ref h0, .int i, .int g, .int k]) ++ List.replicate (4 - (lg_sl ([.ref h0, .int i, .int g, .int k])).length) Slot.unset).toArray = ls at hl ⊢
  have hl : lv_has ls 4 [(0, .ref h0), (1, .int i), (2, .int g), (3, .int k)] := hl
  refine lv_aload_n hx hb dX9_harmBy_0 rfl (lv_at hl 0 rfl) ?_
  refine lv_iload_n hx hb dX9_harmBy_1 rfl (lv_at hl 1 rfl) ?_
  refine lv_iload_n hx hb dX9_harmBy_2 rfl (lv_at hl 2 rfl) ?_
  refine lv_iload_n hx hb dX9_harmBy_3 rfl (lv_at hl 3 rfl) ?_
  have hPc := hP.sub (ws' := [(h0, .inr (9, [.int (nI N), .int (nI B), .int (nI D), .ref a1, .ref a2, .ref a3, .ref a4, .ref a5, .ref a6]))]) [0] rfl
  refine va_calli (va_runV (As := [.int i, .int g, .int k]) (rest := []) ⟨hx, hb, hml, hown, hg⟩ (c_X9_canHand l dC dI G _ h0 a1 a2 a3 a4 a5 a6 N B D i g k hN_N hB_B hD_D) (kwV hg mfX9_canHand wt_580 ⟨Nat.le_of_ble_eq_true rfl, Nat.le_of_ble_eq_true rfl⟩) (preVR hK hPc (ci := 9) rfl rfl) rfl rfl hl.1 rfl (lv_room (Nat.le_of_ble_eq_true rfl)) dX9_harmBy_4 ⟨Nat.le_of_ble_eq_true rfl, Nat.le_of_ble_eq_true rfl⟩) hS (fun q h1 h2 => absurd h2 (Nat.not_le.mpr h1)) (fun q h => hA q (Nat.le_trans hS.1 h)) (fun r1 ur1 t H1 locs ht hvm w2 hB hz1 hk1 hS => ?_)
  have hP := keepR hP hk1
  obtain ⟨w2, w2x⟩ := w2
  try simp only [l_ii] at w2
  subst w2
  refine lv_if_ne (tgt := 12) hx hb dX9_harmBy_7 rfl (fun c3 => ?_) (fun c3 => ?_)
  · skip
    have b4 := if10_p c3
    obtain ⟨ii, hii, rfl⟩ : ∃ j : Nat, j < 10 ∧ i = nI j := by
      have t_b4 := b4
      have t_n0 : (nI N).toInt = (N : Int) := tn28_ ()
      have t_n1 : (nI B).toInt = (B : Int) := tn29_ ()
      have t_n2 : (nI D).toInt = (D : Int) := tn30_ ()
      exact i32_nat (by omega) (by omega)
    obtain ⟨kk, hkk, rfl⟩ : ∃ j : Nat, j < 6 ∧ k = nI j := by
      have t_b4 := b4
      have t_hii := hii
      have t_n0 : (nI N).toInt = (N : Int) := tn28_ ()
      have t_n1 : (nI B).toInt = (B : Int) := tn29_ ()
      have t_n2 : (nI D).toInt = (D : Int) := tn30_ ()
      have tn31_ : nIT ii := fun _ => nI_toInt (by omega)
      have t_n3 : (nI ii).toInt = (ii : Int) := tn31_ ()
      exact i32_nat (by omega) (by omega)
    refine lv_bipush (v := 20) hx hb dX9_harmBy_12 rfl ?_
    refine lv_aload_n hx hb dX9_harmBy_14 rfl (lv_at hl 0 rfl) ?_
    refine lv_iload_n hx hb dX9_harmBy_15 rfl (lv_at hl 1 rfl) ?_
    refine lv_iload_n hx hb dX9_harmBy_16 rfl (lv_at hl 3 rfl) ?_
    have hPc := hP.sub (ws' := [(h0, .inr (9, [.int (nI N), .int (nI B), .int (nI D), .ref a1, .ref a2, .ref a3, .ref a4, .ref a5, .ref a6])), (a1, .inl (G 0, 10, .inl f1)), (a4, .inl (G 0, 6, .inl f4))]) [0, 1, 3] rfl
    have tn32_ : nIT ii := fun _ => nI_toInt (by first | omega | (have t_b4 := b4; have t_hii := hii; have t_hkk := hkk; omega))
    have tn33_ : nIT kk := fun _ => nI_toInt (by first | omega | (have t_b4 := b4; have t_hii := hii; have t_hkk := hkk; omega))
    refine va_calli (va_runV (As := [.int (nI ii), .int (nI kk)]) (rest := [.int 20]) ⟨hx, hb, hml, hown, hg⟩ (c_X9_noiseBy l dC dI G _ h0 a1 a2 a3 a4 a5 a6 N B D ii kk f1 f4 hN_N hB_B hD_D (by first | omega | (have t_b4 := b4; have t_hii := hii; have t_hkk := hkk; have t_n0 : (nI N).toInt = (N : Int) := tn28_ (); have t_n1 : (nI B).toInt = (B : Int) := tn29_ (); have t_n2 : (nI D).toInt = (D : Int) := tn30_ (); have t_n3 : (nI ii).toInt = (ii : Int) := tn32_ (); have t_n4 : (nI kk).toInt = (kk : Int) := tn33_ (); omega)) (by first | omega | (have t_b4 := b4; have t_hii := hii; have t_hkk := hkk; have t_n0 : (nI N).toInt = (N : Int) := tn28_ (); have t_n1 : (nI B).toInt = (B : Int) := tn29_ (); have t_n2 : (nI D).toInt = (D : Int) := tn30_ (); have t_n3 : (nI ii).toInt = (ii : Int) := tn32_ (); have t_n4 : (nI kk).toInt = (kk : Int) := tn33_ (); omega))) (kwV hg mfX9_noiseBy wt_581 ⟨Nat.le_of_ble_eq_true rfl, Nat.le_of_ble_eq_true rfl⟩) (preVR hK hPc (ci := 9) rfl rfl) rfl rfl hl.1 rfl (lv_room (Nat.le_of_ble_eq_true rfl)) dX9_harmBy_17 ⟨Nat.le_of_ble_eq_true rfl, Nat.le_of_ble_eq_true rfl⟩) hS (fun q h1 h2 => absurd h2 (Nat.not_le.mpr h1)) (fun q h => hA q (Nat.le_trans hS.1 h)) (fun r5 ur5 t H1 locs ht hvm w6 hB hz1 hk1 hS => ?_)
    have hP := keepR hP hk1
    obtain ⟨w6, w6x⟩ := w6
    subst w6
    refine lv_aload_n hx hb dX9_harmBy_20 rfl (lv_at hl 0 rfl) ?_
    refine lv_iload_n hx hb dX9_harmBy_21 rfl (lv_at hl 1 rfl) ?_
    refine lv_iload_n hx hb dX9_harmBy_22 rfl (lv_at hl 3 rfl) ?_
    have hPc := hP.sub (ws' := [(h0, .inr (9, [.int (nI N), .int (nI B), .int (nI D), .ref a1, .ref a2, .ref a3, .ref a4, .ref a5, .ref a6])), (a2, .inl (G 0, 10, .inl f2)), (a4, .inl (G 0, 6, .inl f4)), (a6, .inl (G 0, 6, .inl f6))]) [0, 2, 3, 5] rfl
    refine va_calli (va_runV (As := [.int (nI ii), .int (nI kk)]) (rest := [.int (nzF (f1 ii) (f4 kk)), .int 20]) ⟨hx, hb, hml, hown, hg⟩ (c_X9_coldBy l dC dI G _ h0 a1 a2 a3 a4 a5 a6 N B D ii kk f2 f4 f6 hN_N hB_B hD_D (by first | omega | (have t_b4 := b4; have t_hii := hii; have t_hkk := hkk; have t_n0 : (nI N).toInt = (N : Int) := tn28_ (); have t_n1 : (nI B).toInt = (B : Int) := tn29_ (); have t_n2 : (nI D).toInt = (D : Int) := tn30_ (); have t_n3 : (nI ii).toInt = (ii : Int) := tn32_ (); have t_n4 : (nI kk).toInt = (kk : Int) := tn33_ (); omega)) (by first | omega | (have t_b4 := b4; have t_hii := hii; have t_hkk := hkk; have t_n0 : (nI N).toInt = (N : Int) := tn28_ (); have t_n1 : (nI B).toInt = (B : Int) := tn29_ (); have t_n2 : (nI D).toInt = (D : Int) := tn30_ (); have t_n3 : (nI ii).toInt = (ii : Int) := tn32_ (); have t_n4 : (nI kk).toInt = (kk : Int) := tn33_ (); omega))) (kwV hg mfX9_coldBy wt_586 ⟨Nat.le_of_ble_eq_true rfl, Nat.le_of_ble_eq_true rfl⟩) (preVR hK hPc (ci := 9) rfl rfl) rfl rfl hl.1 rfl (lv_room (Nat.le_of_ble_eq_true rfl)) dX9_harmBy_23 ⟨Nat.le_of_ble_eq_true rfl, Nat.le_of_ble_eq_true rfl⟩) hS (fun q h1 h2 => absurd h2 (Nat.not_le.mpr h1)) (fun q h => hA q (Nat.le_trans hS.1 h)) (fun r7 ur7 t H1 locs ht hvm w8 hB hz1 hk1 hS => ?_)
    have hP := keepR hP hk1
    obtain ⟨w8, w8x⟩ := w8
    subst w8
    refine lv_iadd hx hb dX9_harmBy_26 ?_
    refine lv_aload_n hx hb dX9_harmBy_27 rfl (lv_at hl 0 rfl) ?_
    refine lv_iload_n hx hb dX9_harmBy_28 rfl (lv_at hl 2 rfl) ?_
    refine lv_iload_n hx hb dX9_harmBy_29 rfl (lv_at hl 3 rfl) ?_
    have hPc := hP.sub (ws' := [(h0, .inr (9, [.int (nI N), .int (nI B), .int (nI D), .ref a1, .ref a2, .ref a3, .ref a4, .ref a5, .ref a6])), (a4, .inl (G 0, 6, .inl f4)), (a5, .inl (G 0, 6, .inl f5))]) [0, 3, 4] rfl
    refine va_calli (va_runV (As := [.int g, .int (nI kk)]) (rest := [.int ((nzF (f1 ii) (f4 kk)) + (cdF (f2 ii) (f6 kk) (f4 kk))), .int 20]) ⟨hx, hb, hml, hown, hg⟩ (c_X9_joltBy l dC dI G _ h0 a1 a2 a3 a4 a5 a6 N B D kk g f4 f5 hN_N hB_B hD_D (by have t_b4 := b4; have t_hii := hii; have t_hkk := hkk; have t_n0 : (nI N).toInt = (N : Int) := tn28_ (); have t_n1 : (nI B).toInt = (B : Int) := tn29_ (); have t_n2 : (nI D).toInt = (D : Int) := tn30_ (); have t_n3 : (nI ii).toInt = (ii : Int) := tn32_ (); have t_n4 : (nI kk).toInt = (kk : Int) := tn33_ (); omega) (by first | omega | (have t_b4 := b4; have t_hii := hii; have t_hkk := hkk; have t_n0 : (nI N).toInt = (N : Int) := tn28_ (); have t_n1 : (nI B).toInt = (B : Int) := tn29_ (); have t_n2 : (nI D).toInt = (D : Int) := tn30_ (); have t_n3 : (nI ii).toInt = (ii : Int) := tn32_ (); have t_n4 : (nI kk).toInt = (kk : Int) := tn33_ (); omega))) (kwV hg mfX9_joltBy wt_590 ⟨Nat.le_of_ble_eq_true rfl, Nat.le_of_ble_eq_true rfl⟩) (preVR hK hPc (ci := 9) rfl rfl) rfl rfl hl.1 rfl (lv_room (Nat.le_of_ble_eq_true rfl)) dX9_harmBy_30 ⟨Nat.le_of_ble_eq_true rfl, Nat.le_of_ble_eq_true rfl⟩) hS (fun q h1 h2 => absurd h2 (Nat.not_le.mpr h1)) (fun q h => hA q (Nat.le_trans hS.1 h)) (fun r9 ur9 t H1 locs ht hvm w10 hB hz1 hk1 hS => ?_)
    have hP := keepR hP hk1
    obtain ⟨w10, w10x⟩ := w10
    subst w10
    refine lv_iadd hx hb dX9_harmBy_33 ?_
    have hPc := hP.sub (ws' := []) [] rfl
    refine va_calli (va_runS (As := [.int 20, .int (((nzF (f1 ii) (f4 kk)) + (cdF (f2 ii) (f6 kk) (f4 kk))) + (jlF g kk f4 f5))]) (rest := []) ⟨hx, hb, hml, hown, hg⟩ (c_J9_min l dC dI G _ 20 (((nzF (f1 ii) (f4 kk)) + (cdF (f2 ii) (f6 kk) (f4 kk))) + (jlF g kk f4 f5))) (kwS hg mfJ9_min_7cf53 wt_597 ⟨Nat.le_of_ble_eq_true rfl, Nat.le_of_ble_eq_true rfl⟩) (preSR hK hPc) rfl rfl hl.1 rfl (lv_room (Nat.le_of_ble_eq_true rfl)) dX9_harmBy_34 ⟨Nat.le_of_ble_eq_true rfl, Nat.le_of_ble_eq_true rfl⟩) hS (fun q h1 h2 => absurd h2 (Nat.not_le.mpr h1)) (fun q h => hA q (Nat.le_trans hS.1 h)) (fun r11 ur11 t H1 locs ht hvm w12 hB hz1 hk1 hS => ?_)
    have hP := keepR hP hk1
    obtain ⟨w12, w12x⟩ := w12
    subst w12
    have hpost : (mn 20 (((nzF (f1 ii) (f4 kk)) + (cdF (f2 ii) (f6 kk) (f4 kk))) + (jlF g kk f4 f5)) : Int32) = hmF N B f1 f2 f4 f5 f6 (nI ii) g (nI kk) := by
      have t_b4 := b4
      have t_hii := hii
      have t_hkk := hkk
      have t_n0 : (nI N).toInt = (N : Int) := tn28_ ()
      have t_n1 : (nI B).toInt = (B : Int) := tn29_ ()
      have t_n2 : (nI D).toInt = (D : Int) := tn30_ ()
      have t_n3 : (nI ii).toInt = (ii : Int) := tn32_ ()
      have t_n4 : (nI kk).toInt = (kk : Int) := tn33_ ()
      unfold hmF
      rw [nI_clamp (by omega), nI_clamp (by omega)]
      rw [if_pos (by omega)]
    refine W.widen (k := 0) (n := 0) (Nat.le_of_ble_eq_true rfl) (Nat.le_of_ble_eq_true rfl) ?_
    exact W.iret (v := mn 20 (((nzF (f1 ii) (f4 kk)) + (cdF (f2 ii) (f6 kk) (f4 kk))) + (jlF g kk f4 f5))) hx hb hr (fun t ht hW => ⟨⟨mn 20 (((nzF (f1 ii) (f4 kk)) + (cdF (f2 ii) (f6 kk) (f4 kk))) + (jlF g kk f4 f5)), (), rfl, ⟨hpost, trivial⟩, trivial⟩, hS.F ht⟩) hS.2.2 dX9_harmBy_37
  · skip
    have b13 := if10_n c3
    refine lv_iconst (v := 0) hx hb dX9_harmBy_10 rfl ?_
    have hpost : (0 : Int32) = hmF N B f1 f2 f4 f5 f6 i g k := by
      have t_b13 := b13
      have t_n0 : (nI N).toInt = (N : Int) := tn28_ ()
      have t_n1 : (nI B).toInt = (B : Int) := tn29_ ()
      have t_n2 : (nI D).toInt = (D : Int) := tn30_ ()
      exact (if_neg (by omega)).symm
    refine W.widen (k := 0) (n := 0) (Nat.le_of_ble_eq_true rfl) (Nat.le_of_ble_eq_true rfl) ?_
    exact W.iret (v := 0) hx hb hr (fun t ht hW => ⟨⟨0, (), rfl, ⟨hpost, trivial⟩, trivial⟩, hS.F ht⟩) hS.2.2 dX9_harmBy_11

set_option maxHeartbeats 1000000 in
set_option maxRecDepth 100000 in
theorem c_X9_harmInOrder (l : Launch) (dC : Nat → ClassId) (dI : Nat → Nat → Nat) (G : Nat → ClassId) (sz : Nat) (h0 a1 a2 a3 a4 a5 a6 N B D : Nat) (i : Int32) (f1 f2 f3 f4 f5 f6 : Nat → Int32) (hN_N : N ≤ 10) (hB_B : B ≤ 6) (hD_D : 1 ≤ D ∧ D ≤ 9) : Met l yX9_harmInOrder (Cond.code yX9_harmInOrder cX9_harmInOrder 2 (some .int) :: GT) ({ frames := 3, cells := 0, slots := 0, locals := 67 } : Room) (PcR [.ref h0, .int i] dC dI G [(h0, .inr (9, [.int (nI N), .int (nI B), .int (nI D), .ref a1, .ref a2, .ref a3, .ref a4, .ref a5, .ref a6])), (a1, .inl (G 0, 10, .inl f1)), (a2, .inl (G 0, 10, .inl f2)), (a3, .inl (G 0, 10, .inl f3)), (a4, .inl (G 0, 6, .inl f4)), (a5, .inl (G 0, 6, .inl f5)), (a6, .inl (G 0, 6, .inl f6))] sz) (va_Qi (fun (r : Int32) (u : Unit) => match u with | _ => (r = hmO N B f1 f2 f3 f4 f5 f6 i) ∧ True) (fun _ _ => True) (fun q : Nat => sz ≤ q)) 0 0 (fun q : Nat => sz ≤ q) := by
  have tn34_ : nIT N := fun _ => nI_toInt (by omega)
  have tn35_ : nIT B := fun _ => nI_toInt (by omega)
  have tn36_ : nIT D := fun _ => nI_toInt (by omega)
  refine Met.ofW (cc := cX9_harmInOrder) (maxL := 2) (ret := (some .int)) (by decide) rfl ?_
  intro p e s m args below meth c s₁ Bd hml hv
  obtain ⟨rfl, hsz, hP, hK⟩ := hv
  have hx := Bd.exec
  have hb := Bd.bytes
  have hr := Bd.returns
  have hg : ∀ w ∈ GT, w.before ([.ref h0, .int i] : List Value).toArray s = true := fun w h => atoms_spec (ws := Cond.code yX9_harmInOrder cX9_harmInOrder 2 (some .int) :: GT) Bd.pre w (List.mem_cons_of_mem _ h)
  have hown : s.vm.findClass RX9 = some m.cls := findClass_of_methodNamed Bd.named
  have hlocks := Bd.notSynchronized
  subst hsz
  have hA : ∀ q : Nat, s.heap.size ≤ q → (fun q : Nat => s.heap.size ≤ q) q := fun _ h => h
  have hS : va_S (fun q : Nat => s.heap.size ≤ q) s.heap s.heap [] := va_S.rf
  have hl := lv_entry ([.ref h0, .int i]) (n := 2) (Nat.le_of_ble_eq_true rfl)
  rw [lg_entry_eq]
  generalize (lg_sl ([.ref h0, .int i]) ++ List.replicate (2 - (lg_sl ([.ref h0, .int i])).length) Slot.unset).toArray = ls at hl ⊢
  have hl : lv_has ls 2 [(0, .ref h0), (1, .int i)] := hl
  refine lv_aload_n hx hb dX9_harmInOrder_0 rfl (lv_at hl 0 rfl) ?_
  refine lv_iload_n hx hb dX9_harmInOrder_1 rfl (lv_at hl 1 rfl) ?_
  have hPc := hP.sub (ws' := [(h0, .inr (9, [.int (nI N), .int (nI B), .int (nI D), .ref a1, .ref a2, .ref a3, .ref a4, .ref a5, .ref a6]))]) [0] rfl
  refine va_calli (va_runV (As := [.int i]) (rest := []) ⟨hx, hb, hml, hown, hg⟩ (c_X9_hasStretch l dC dI G _ h0 a1 a2 a3 a4 a5 a6 N B D i hN_N hB_B hD_D) (kwV hg mfX9_hasStretch wt_574 ⟨Nat.le_of_ble_eq_true rfl, Nat.le_of_ble_eq_true rfl⟩) (preVR hK hPc (ci := 9) rfl rfl) rfl rfl hl.1 rfl (lv_room (Nat.le_of_ble_eq_true rfl)) dX9_harmInOrder_2 ⟨Nat.le_of_ble_eq_true rfl, Nat.le_of_ble_eq_true rfl⟩) hS (fun q h1 h2 => absurd h2 (Nat.not_le.mpr h1)) (fun q h => hA q (Nat.le_trans hS.1 h)) (fun r1 ur1 t H1 locs ht hvm w2 hB hz1 hk1 hS => ?_)
  have hP := keepR hP hk1
  obtain ⟨w2, w2x⟩ := w2
  try simp only [l_ii, show (0 : Int32).toInt = 0 from by decide] at w2
  try rw [show (nI (N)).toInt = ((N : Nat) : Int) from tn34_ ()] at w2
  subst w2
  refine lv_if_ne (tgt := 10) hx hb dX9_harmInOrder_5 rfl (fun c3 => ?_) (fun c3 => ?_)
  · skip
    have b4 := if10_p c3
    obtain ⟨ii, hii, rfl⟩ : ∃ j : Nat, j < 10 ∧ i = nI j := by
      have t_b4 := b4
      have t_n0 : (nI N).toInt = (N : Int) := tn34_ ()
      have t_n1 : (nI B).toInt = (B : Int) := tn35_ ()
      have t_n2 : (nI D).toInt = (D : Int) := tn36_ ()
      exact i32_nat (by omega) (by omega)
    refine lv_aload_n hx hb dX9_harmInOrder_10 rfl (lv_at hl 0 rfl) ?_
    refine lv_iload_n hx hb dX9_harmInOrder_11 rfl (lv_at hl 1 rfl) ?_
    refine lv_iload_n hx hb dX9_harmInOrder_12 rfl (lv_at hl 1 rfl) ?_
    refine lv_if_ne (tgt := 21) hx hb dX9_harmInOrder_13 rfl (fun c5 => ?_) (fun c5 => ?_)
    · skip
      have tn37_ : nIT ii := fun _ => nI_toInt (by first | omega | (have t := neI c5; omega))
      have n6 : ii ≠ 0 := by have t := neI c5; rw [show (nI (ii)).toInt = ((ii : Nat) : Int) from tn37_ ()] at t; have : (0 : Int32).toInt = 0 := qI_0; omega
      refine lv_aload_n hx hb dX9_harmInOrder_21 rfl (lv_at hl 0 rfl) ?_
      refine va_get (D := (dC, dI)) (ci := 9) (v := .ref a3) (C := RX9) (T := TX9) (N := 9) hx hb hg inG9 hown hK.1 hP 0 rfl rfl 5 (Nat.le_of_ble_eq_true rfl) (hg _ wt_77) (fun _ h9 => h9) rfl dX9_harmInOrder_22 ?_
      refine lv_iload_n hx hb dX9_harmInOrder_25 rfl (lv_at hl 1 rfl) ?_
      refine lv_iconst (v := 1) hx hb dX9_harmInOrder_26 rfl ?_
      refine lv_isub hx hb dX9_harmInOrder_27 ?_
      refine lv_cg (y := nI (ii - 1)) (by rw [show (1 : Int32) = nI 1 from rfl]; exact pk_sub (by have t_b4 := b4; have t_hii := hii; have t_n6 := n6; have t_n0 : (nI N).toInt = (N : Int) := tn34_ (); have t_n1 : (nI B).toInt = (B : Int) := tn35_ (); have t_n2 : (nI D).toInt = (D : Int) := tn36_ (); have t_n3 : (nI ii).toInt = (ii : Int) := tn37_ (); omega)) ?_
      refine va_iald hx hb hK.1 hP 3 0 rfl rfl (vp_in_nI (by first | omega | (have t_b4 := b4; have t_hii := hii; have t_n6 := n6; have t_n0 : (nI N).toInt = (N : Int) := tn34_ (); have t_n1 : (nI B).toInt = (B : Int) := tn35_ (); have t_n2 : (nI D).toInt = (D : Int) := tn36_ (); have t_n3 : (nI ii).toInt = (ii : Int) := tn37_ (); omega)) (by decide)) dX9_harmInOrder_28 ?_
      refine lv_cg (y := f3 (ii - 1)) (by rw [nI_clamp (by omega)]) ?_
      refine lv_aload_n hx hb dX9_harmInOrder_29 rfl (lv_at hl 0 rfl) ?_
      refine va_get (D := (dC, dI)) (ci := 9) (v := .ref a3) (C := RX9) (T := TX9) (N := 9) hx hb hg inG9 hown hK.1 hP 0 rfl rfl 5 (Nat.le_of_ble_eq_true rfl) (hg _ wt_77) (fun _ h9 => h9) rfl dX9_harmInOrder_30 ?_
      refine lv_iload_n hx hb dX9_harmInOrder_33 rfl (lv_at hl 1 rfl) ?_
      refine va_iald hx hb hK.1 hP 3 0 rfl rfl (vp_in_nI (by first | omega | (have t_b4 := b4; have t_hii := hii; have t_n6 := n6; have t_n0 : (nI N).toInt = (N : Int) := tn34_ (); have t_n1 : (nI B).toInt = (B : Int) := tn35_ (); have t_n2 : (nI D).toInt = (D : Int) := tn36_ (); have t_n3 : (nI ii).toInt = (ii : Int) := tn37_ (); omega)) (by decide)) dX9_harmInOrder_34 ?_
      refine lv_cg (y := f3 ii) (by rw [nI_clamp (by omega)]) ?_
      have hPc := hP.sub (ws' := [(h0, .inr (9, [.int (nI N), .int (nI B), .int (nI D), .ref a1, .ref a2, .ref a3, .ref a4, .ref a5, .ref a6])), (a1, .inl (G 0, 10, .inl f1)), (a2, .inl (G 0, 10, .inl f2)), (a4, .inl (G 0, 6, .inl f4)), (a5, .inl (G 0, 6, .inl f5)), (a6, .inl (G 0, 6, .inl f6))]) [0, 1, 2, 4, 5, 6] rfl
      refine va_calli (va_runV (As := [.int (nI ii), .int (f3 (ii - 1)), .int (f3 ii)]) (rest := []) ⟨hx, hb, hml, hown, hg⟩ (c_X9_harmBy l dC dI G _ h0 a1 a2 a3 a4 a5 a6 N B D (nI ii) (f3 (ii - 1)) (f3 ii) f1 f2 f4 f5 f6 hN_N hB_B hD_D) (kwV hg mfX9_harmBy wt_629 ⟨Nat.le_of_ble_eq_true rfl, Nat.le_of_ble_eq_true rfl⟩) (preVR hK hPc (ci := 9) rfl rfl) rfl rfl hl.1 rfl (lv_room (Nat.le_of_ble_eq_true rfl)) dX9_harmInOrder_35 ⟨Nat.le_of_ble_eq_true rfl, Nat.le_of_ble_eq_true rfl⟩) hS (fun q h1 h2 => absurd h2 (Nat.not_le.mpr h1)) (fun q h => hA q (Nat.le_trans hS.1 h)) (fun r7 ur7 t H1 locs ht hvm w8 hB hz1 hk1 hS => ?_)
      have hP := keepR hP hk1
      obtain ⟨w8, w8x⟩ := w8
      subst w8
      have hpost : (hmF N B f1 f2 f4 f5 f6 (nI ii) (f3 (ii - 1)) (f3 ii) : Int32) = hmO N B f1 f2 f3 f4 f5 f6 (nI ii) := by
        unfold hmO
        rw [nI_clamp (by (have t_b4 := b4; have t_hii := hii; have t_n6 := n6; have t_n0 : (nI N).toInt = (N : Int) := tn34_ (); have t_n1 : (nI B).toInt = (B : Int) := tn35_ (); have t_n2 : (nI D).toInt = (D : Int) := tn36_ (); have t_n3 : (nI ii).toInt = (ii : Int) := tn37_ (); omega)), if_pos (by (have t_b4 := b4; have t_hii := hii; have t_n6 := n6; have t_n0 : (nI N).toInt = (N : Int) := tn34_ (); have t_n1 : (nI B).toInt = (B : Int) := tn35_ (); have t_n2 : (nI D).toInt = (D : Int) := tn36_ (); have t_n3 : (nI ii).toInt = (ii : Int) := tn37_ (); omega))]
        first | rw [if_pos (by assumption)] | rw [if_neg (by assumption)] | (split <;> first | rfl | contradiction)
      refine W.widen (k := 0) (n := 0) (Nat.le_of_ble_eq_true rfl) (Nat.le_of_ble_eq_true rfl) ?_
      exact W.iret (v := hmF N B f1 f2 f4 f5 f6 (nI ii) (f3 (ii - 1)) (f3 ii)) hx hb hr (fun t ht hW => ⟨⟨hmF N B f1 f2 f4 f5 f6 (nI ii) (f3 (ii - 1)) (f3 ii), (), rfl, ⟨hpost, trivial⟩, trivial⟩, hS.F ht⟩) hS.2.2 dX9_harmInOrder_38
    · skip
      have tn38_ : nIT ii := fun _ => nI_toInt (by first | omega | (have t := eqI c5; omega))
      have n9 : ii = 0 := by have t := eqI c5; rw [show (nI (ii)).toInt = ((ii : Nat) : Int) from tn38_ ()] at t; have : (0 : Int32).toInt = 0 := qI_0; omega
      refine lv_bipush (v := (-4)) hx hb dX9_harmInOrder_16 rfl ?_
      refine lv_goto (tgt := 29) hx hb dX9_harmInOrder_18 rfl ?_
      refine lv_aload_n hx hb dX9_harmInOrder_29 rfl (lv_at hl 0 rfl) ?_
      refine va_get (D := (dC, dI)) (ci := 9) (v := .ref a3) (C := RX9) (T := TX9) (N := 9) hx hb hg inG9 hown hK.1 hP 0 rfl rfl 5 (Nat.le_of_ble_eq_true rfl) (hg _ wt_77) (fun _ h9 => h9) rfl dX9_harmInOrder_30 ?_
      refine lv_iload_n hx hb dX9_harmInOrder_33 rfl (lv_at hl 1 rfl) ?_
      refine va_iald hx hb hK.1 hP 3 0 rfl rfl (vp_in_nI (by first | omega | (have t_b4 := b4; have t_hii := hii; have t_n9 := n9; have t_n0 : (nI N).toInt = (N : Int) := tn34_ (); have t_n1 : (nI B).toInt = (B : Int) := tn35_ (); have t_n2 : (nI D).toInt = (D : Int) := tn36_ (); have t_n3 : (nI ii).toInt = (ii : Int) := tn38_ (); omega)) (by decide)) dX9_harmInOrder_34 ?_
      refine lv_cg (y := f3 ii) (by rw [nI_clamp (by omega)]) ?_
      have hPc := hP.sub (ws' := [(h0, .inr (9, [.int (nI N), .int (nI B), .int (nI D), .ref a1, .ref a2, .ref a3, .ref a4, .ref a5, .ref a6])), (a1, .inl (G 0, 10, .inl f1)), (a2, .inl (G 0, 10, .inl f2)), (a4, .inl (G 0, 6, .inl f4)), (a5, .inl (G 0, 6, .inl f5)), (a6, .inl (G 0, 6, .inl f6))]) [0, 1, 2, 4, 5, 6] rfl
      refine va_calli (va_runV (As := [.int (nI ii), .int (-4), .int (f3 ii)]) (rest := []) ⟨hx, hb, hml, hown, hg⟩ (c_X9_harmBy l dC dI G _ h0 a1 a2 a3 a4 a5 a6 N B D (nI ii) (-4) (f3 ii) f1 f2 f4 f5 f6 hN_N hB_B hD_D) (kwV hg mfX9_harmBy wt_629 ⟨Nat.le_of_ble_eq_true rfl, Nat.le_of_ble_eq_true rfl⟩) (preVR hK hPc (ci := 9) rfl rfl) rfl rfl hl.1 rfl (lv_room (Nat.le_of_ble_eq_true rfl)) dX9_harmInOrder_35 ⟨Nat.le_of_ble_eq_true rfl, Nat.le_of_ble_eq_true rfl⟩) hS (fun q h1 h2 => absurd h2 (Nat.not_le.mpr h1)) (fun q h => hA q (Nat.le_trans hS.1 h)) (fun r10 ur10 t H1 locs ht hvm w11 hB hz1 hk1 hS => ?_)
      have hP := keepR hP hk1
      obtain ⟨w11, w11x⟩ := w11
      subst w11
      have hpost : (hmF N B f1 f2 f4 f5 f6 (nI ii) (-4) (f3 ii) : Int32) = hmO N B f1 f2 f3 f4 f5 f6 (nI ii) := by
        unfold hmO
        rw [nI_clamp (by (have t_b4 := b4; have t_hii := hii; have t_n9 := n9; have t_n0 : (nI N).toInt = (N : Int) := tn34_ (); have t_n1 : (nI B).toInt = (B : Int) := tn35_ (); have t_n2 : (nI D).toInt = (D : Int) := tn36_ (); have t_n3 : (nI ii).toInt = (ii : Int) := tn38_ (); omega)), if_pos (by (have t_b4 := b4; have t_hii := hii; have t_n9 := n9; have t_n0 : (nI N).toInt = (N : Int) := tn34_ (); have t_n1 : (nI B).toInt = (B : Int) := tn35_ (); have t_n2 : (nI D).toInt = (D : Int) := tn36_ (); have t_n3 : (nI ii).toInt = (ii : Int) := tn38_ (); omega))]
        first | rw [if_pos (by assumption)] | rw [if_neg (by assumption)] | (split <;> first | rfl | contradiction)
      refine W.widen (k := 0) (n := 0) (Nat.le_of_ble_eq_true rfl) (Nat.le_of_ble_eq_true rfl) ?_
      exact W.iret (v := hmF N B f1 f2 f4 f5 f6 (nI ii) (-4) (f3 ii)) hx hb hr (fun t ht hW => ⟨⟨hmF N B f1 f2 f4 f5 f6 (nI ii) (-4) (f3 ii), (), rfl, ⟨hpost, trivial⟩, trivial⟩, hS.F ht⟩) hS.2.2 dX9_harmInOrder_38
  · skip
    have b12 := if10_n c3
    refine lv_iconst (v := 0) hx hb dX9_harmInOrder_8 rfl ?_
    have hpost : (0 : Int32) = hmO N B f1 f2 f3 f4 f5 f6 i := by
      have t_b12 := b12
      have t_n0 : (nI N).toInt = (N : Int) := tn34_ ()
      have t_n1 : (nI B).toInt = (B : Int) := tn35_ ()
      have t_n2 : (nI D).toInt = (D : Int) := tn36_ ()
      exact (if_neg (by omega)).symm
    refine W.widen (k := 0) (n := 0) (Nat.le_of_ble_eq_true rfl) (Nat.le_of_ble_eq_true rfl) ?_
    exact W.iret (v := 0) hx hb hr (fun t ht hW => ⟨⟨0, (), rfl, ⟨hpost, trivial⟩, trivial⟩, hS.F ht⟩) hS.2.2 dX9_harmInOrder_9

set_option maxHeartbeats 1000000 in
set_option maxRecDepth 100000 in
theorem c_X7_byteAt (l : Launch) (dC : Nat → ClassId) (dI : Nat → Nat → Nat) (G : Nat → ClassId) (sz : Nat) (h0 ta T : Nat) (i : Int32) (f : Nat → Int32) (hT : T ≤ 320) : Met l yX7_byteAt (Cond.code yX7_byteAt cX7_byteAt 2 (some .int) :: GT) ({ frames := 0, cells := 0, slots := 0, locals := 0 } : Room) (PcR [.ref h0, .int i] dC dI G [(h0, .inr (7, [.int (nI T), .ref ta])), (ta, .inl (G 0, 320, .inl f))] sz) (va_Qi (fun (r : Int32) (u : Unit) => match u with | _ => (r = if 0 ≤ i.toInt ∧ i.toInt < ((T : Nat) : Int) then f i.toNatClampNeg else 0) ∧ True) (fun _ _ => True) (fun q : Nat => sz ≤ q)) 0 0 (fun q : Nat => sz ≤ q) := by
  have tn39_ : nIT T := fun _ => nI_toInt (by omega)
  refine Met.ofW (cc := cX7_byteAt) (maxL := 2) (ret := (some .int)) (by decide) rfl ?_
  intro p e s m args below meth c s₁ Bd hml hv
  obtain ⟨rfl, hsz, hP, hK⟩ := hv
  have hx := Bd.exec
  have hb := Bd.bytes
  have hr := Bd.returns
  have hg : ∀ w ∈ GT, w.before ([.ref h0, .int i] : List Value).toArray s = true := fun w h => atoms_spec (ws := Cond.code yX7_byteAt cX7_byteAt 2 (some .int) :: GT) Bd.pre w (List.mem_cons_of_mem _ h)
  have hown : s.vm.findClass RX7 = some m.cls := findClass_of_methodNamed Bd.named
  have hlocks := Bd.notSynchronized
  subst hsz
  have hA : ∀ q : Nat, s.heap.size ≤ q → (fun q : Nat => s.heap.size ≤ q) q := fun _ h => h
  have hS : va_S (fun q : Nat => s.heap.size ≤ q) s.heap s.heap [] := va_S.rf
  have hl := lv_entry ([.ref h0, .int i]) (n := 2) (Nat.le_of_ble_eq_true rfl)
  rw [lg_entry_eq]
  generalize (lg_sl ([.ref h0, .int i]) ++ List.replicate (2 - (lg_sl ([.ref h0, .int i])).length) Slot.unset).toArray = ls at hl ⊢
  have hl : lv_has ls 2 [(0, .ref h0), (1, .int i)] := hl
  refine lv_iload_n hx hb dX7_byteAt_0 rfl (lv_at hl 1 rfl) ?_
  refine lv_if_lt (tgt := 21) hx hb dX7_byteAt_1 rfl (fun c1 => ?_) (fun c1 => ?_)
  · skip
    refine lv_iconst (v := 0) hx hb dX7_byteAt_21 rfl ?_
    have hpost : (0 : Int32) = if 0 ≤ i.toInt ∧ i.toInt < ((T : Nat) : Int) then f i.toNatClampNeg else 0 := by
      have t_c1 := ltI c1
      have : (0 : Int32).toInt = 0 := qI_0
      have t_n0 : (nI T).toInt = (T : Int) := tn39_ ()
      first | rfl | ((repeat' split) <;> first | rfl | omega)
    refine W.widen (k := 0) (n := 0) (Nat.le_of_ble_eq_true rfl) (Nat.le_of_ble_eq_true rfl) ?_
    exact W.iret (v := 0) hx hb hr (fun t ht hW => ⟨⟨0, (), rfl, ⟨hpost, trivial⟩, trivial⟩, hS.F ht⟩) hS.2.2 dX7_byteAt_22
  · skip
    refine lv_iload_n hx hb dX7_byteAt_4 rfl (lv_at hl 1 rfl) ?_
    refine lv_aload_n hx hb dX7_byteAt_5 rfl (lv_at hl 0 rfl) ?_
    refine va_get (D := (dC, dI)) (ci := 7) (v := .int (nI T)) (C := RX7) (T := TX7) (N := 2) hx hb hg inG7 hown hK.1 hP 0 rfl rfl 0 (Nat.le_of_ble_eq_true rfl) (hg _ wt_40) (fun _ h9 => h9) rfl dX7_byteAt_6 ?_
    refine lv_icmp_ge (tgt := 21) hx hb dX7_byteAt_9 rfl (fun c2 => ?_) (fun c2 => ?_)
    · skip
      refine lv_iconst (v := 0) hx hb dX7_byteAt_21 rfl ?_
      have hpost : (0 : Int32) = if 0 ≤ i.toInt ∧ i.toInt < ((T : Nat) : Int) then f i.toNatClampNeg else 0 := by
        have t_c1 := nltI c1
        have t_c2 := leI c2
        have : (0 : Int32).toInt = 0 := qI_0
        have t_n0 : (nI T).toInt = (T : Int) := tn39_ ()
        first | rfl | ((repeat' split) <;> first | rfl | omega)
      refine W.widen (k := 0) (n := 0) (Nat.le_of_ble_eq_true rfl) (Nat.le_of_ble_eq_true rfl) ?_
      exact W.iret (v := 0) hx hb hr (fun t ht hW => ⟨⟨0, (), rfl, ⟨hpost, trivial⟩, trivial⟩, hS.F ht⟩) hS.2.2 dX7_byteAt_22
    · skip
      refine lv_aload_n hx hb dX7_byteAt_12 rfl (lv_at hl 0 rfl) ?_
      refine va_get (D := (dC, dI)) (ci := 7) (v := .ref ta) (C := RX7) (T := TX7) (N := 2) hx hb hg inG7 hown hK.1 hP 0 rfl rfl 1 (Nat.le_of_ble_eq_true rfl) (hg _ wt_43) (fun _ h9 => h9) rfl dX7_byteAt_13 ?_
      refine lv_iload_n hx hb dX7_byteAt_16 rfl (lv_at hl 1 rfl) ?_
      refine va_iald hx hb hK.1 hP 1 0 rfl rfl (vp_in_iff.mpr (by have t_c1 := nltI c1; have t_c2 := nleI c2; have : (0 : Int32).toInt = 0 := qI_0; have t_n0 : (nI T).toInt = (T : Int) := tn39_ (); constructor <;> omega)) dX7_byteAt_17 ?_
      refine lv_goto (tgt := 22) hx hb dX7_byteAt_18 rfl ?_
      have hpost : (f i.toNatClampNeg : Int32) = if 0 ≤ i.toInt ∧ i.toInt < ((T : Nat) : Int) then f i.toNatClampNeg else 0 := by
        have t_c1 := nltI c1
        have t_c2 := nleI c2
        have : (0 : Int32).toInt = 0 := qI_0
        have t_n0 : (nI T).toInt = (T : Int) := tn39_ ()
        first | rfl | ((repeat' split) <;> first | rfl | omega)
      refine W.widen (k := 0) (n := 0) (Nat.le_of_ble_eq_true rfl) (Nat.le_of_ble_eq_true rfl) ?_
      exact W.iret (v := f i.toNatClampNeg) hx hb hr (fun t ht hW => ⟨⟨f i.toNatClampNeg, (), rfl, ⟨hpost, trivial⟩, trivial⟩, hS.F ht⟩) hS.2.2 dX7_byteAt_22

set_option maxHeartbeats 1000000 in
set_option maxRecDepth 100000 in
theorem c_X4_begin (l : Launch) (dC : Nat → ClassId) (dI : Nat → Nat → Nat) (G : Nat → ClassId) (sz : Nat) (h0 sa aa : Nat) (i : Int32) (w0 : Int64) (f g : Nat → Int64)  : Met l yX4_begin (Cond.code yX4_begin cX4_begin 3 none :: GT) ({ frames := 0, cells := 0, slots := 0, locals := 0 } : Room) (PcW [.ref h0, .int i] dC dI G [(h0, .inr (4, [.long w0, .ref sa, .ref aa])), (sa, .inl (G 1, 10, .inr (.inl f))), (aa, .inl (G 1, 10, .inr (.inl g)))] sz) (va_Qv (fun (u : Int64 × (Nat → Int64) × (Nat → Int64)) => match u with | (u0, u1, u2) => True) (fun (u : Int64 × (Nat → Int64) × (Nat → Int64)) (t : State) => match u with | (u0, u1, u2) => va_P (dC, dI) vwCl [(h0, .inr (4, [.long u0, .ref sa, .ref aa])), (sa, .inl (G 1, 10, .inr (.inl u1))), (aa, .inl (G 1, 10, .inr (.inl u2)))] t.heap ∧ va_D (va_A [(h0, .inr (4, [.long w0, .ref sa, .ref aa])), (sa, .inl (G 1, 10, .inr (.inl f))), (aa, .inl (G 1, 10, .inr (.inl g)))] sz) [(h0, .inr (4, [.long u0, .ref sa, .ref aa])), (sa, .inl (G 1, 10, .inr (.inl u1))), (aa, .inl (G 1, 10, .inr (.inl u2)))]) (va_A [(h0, .inr (4, [.long w0, .ref sa, .ref aa])), (sa, .inl (G 1, 10, .inr (.inl f))), (aa, .inl (G 1, 10, .inr (.inl g)))] sz)) 0 0 (va_A [(h0, .inr (4, [.long w0, .ref sa, .ref aa])), (sa, .inl (G 1, 10, .inr (.inl f))), (aa, .inl (G 1, 10, .inr (.inl g)))] sz) := by
  refine Met.ofW (cc := cX4_begin) (maxL := 3) (ret := none) (by decide) rfl ?_
  intro p e s m args below meth c s₁ Bd hml hv
  obtain ⟨rfl, hsz, hP, hK, hD0⟩ := hv
  have hx := Bd.exec
  have hb := Bd.bytes
  have hr := Bd.returns
  have hg : ∀ w ∈ GT, w.before ([.ref h0, .int i] : List Value).toArray s = true := fun w h => atoms_spec (ws := Cond.code yX4_begin cX4_begin 3 none :: GT) Bd.pre w (List.mem_cons_of_mem _ h)
  have hown : s.vm.findClass RX4 = some m.cls := findClass_of_methodNamed Bd.named
  have hlocks := Bd.notSynchronized
  subst hsz
  have hD := hD0.self (sz := s.heap.size)
  generalize hAe : va_A [(h0, .inr (4, [.long w0, .ref sa, .ref aa])), (sa, .inl (G 1, 10, .inr (.inl f))), (aa, .inl (G 1, 10, .inr (.inl g)))] s.heap.size = A at hD ⊢
  have hA : ∀ q : Nat, s.heap.size ≤ q → A q := fun q h => by rw [← hAe]; exact Or.inr h
  have hS : va_S A s.heap s.heap [] := va_S.rf
  have hl := lv_entry ([.ref h0, .int i]) (n := 3) (Nat.le_of_ble_eq_true rfl)
  rw [lg_entry_eq]
  generalize (lg_sl ([.ref h0, .int i]) ++ List.replicate (3 - (lg_sl ([.ref h0, .int i])).length) Slot.unset).toArray = ls at hl ⊢
  have hl : lv_has ls 3 [(0, .ref h0), (1, .int i)] := hl
  refine lv_aload_n hx hb dX4_begin_0 rfl (lv_at hl 0 rfl) ?_
  refine lv_lconst (v := 1) hx hb dX4_begin_1 (by decide) ?_
  refine va_put (D := (dC, dI)) (ci := 4) (v := .long 1) (ty := .long) (C := RX4) (T := TX4) (N := 3) hx hb hg inG4 tyX4 tyX4_ok nmX4 hown hK.1 hP hD hS 0 rfl rfl 0 (Nat.le_of_ble_eq_true rfl) (hg _ wt_156) (fun _ h9 => h9) rfl (by decide +kernel) rfl rfl (Nat.le_of_ble_eq_true rfl) dX4_begin_2 (fun H locs hP hD hS => ?_)
  refine lv_iconst (v := 0) hx hb dX4_begin_5 rfl ?_
  refine lv_istore_n (lv' := [(2, .int 0), (0, .ref h0), (1, .int i)]) hx hb dX4_begin_6 rfl hl (by decide) rfl (fun ls hl => ?_)
  have loop7_3 : ∀ (nf j1 : Nat), 10 + 1 ≤ j1 + nf → j1 ≤ 10 → ∀ (g2 : Nat → Int64) (H : Heap) (locs : List Loc), va_P (dC, dI) vwCl [(h0, .inr (4, [.long 1, .ref sa, .ref aa])), (sa, .inl (G 1, 10, .inr (.inl g2))), (aa, .inl (G 1, 10, .inr (.inl g)))] H → va_D A [(h0, .inr (4, [.long 1, .ref sa, .ref aa])), (sa, .inl (G 1, 10, .inr (.inl g2))), (aa, .inl (G 1, 10, .inr (.inl g)))] → va_S A s.heap H locs → ∀ (ls : Array Slot), lv_has ls 3 [(2, .int (nI j1)), (0, .ref h0), (1, .int i)] → W p l e (headSpec (Cond.code yX4_begin cX4_begin 3 none :: GT) ({ frames := 0, cells := 0, slots := 0, locals := 0 } : Room)).room s m ([.ref h0, .int i] : List Value).toArray below meth c H locs 0 0 (MQ below (va_Qv (fun (u : Int64 × (Nat → Int64) × (Nat → Int64)) => match u with | (u0, u1, u2) => True) (fun (u : Int64 × (Nat → Int64) × (Nat → Int64)) (t : State) => match u with | (u0, u1, u2) => va_P (dC, dI) vwCl [(h0, .inr (4, [.long u0, .ref sa, .ref aa])), (sa, .inl (G 1, 10, .inr (.inl u1))), (aa, .inl (G 1, 10, .inr (.inl u2)))] t.heap ∧ va_D A [(h0, .inr (4, [.long u0, .ref sa, .ref aa])), (sa, .inl (G 1, 10, .inr (.inl u1))), (aa, .inl (G 1, 10, .inr (.inl u2)))]) A) ([.ref h0, .int i] : List Value).toArray s 0 0 A) (F0 m 7 ls []) := by
    intro nf
    induction nf with
    | zero => intro j1 h1 h2; exact absurd h1 (by omega)
    | succ nf ih7_3 =>
      intro j1 hn4 hj5 g2 H locs hP hD hS ls hl
      refine lv_iload_n hx hb dX4_begin_7 rfl (lv_at hl 0 rfl) ?_
      refine lv_bipush (v := 10) hx hb dX4_begin_8 rfl ?_
      refine lv_icmp_ge (tgt := 35) hx hb dX4_begin_10 rfl (fun c6 => ?_) (fun c6 => ?_)
      · skip
        have tn49_ : nIT j1 := fun _ => nI_toInt (by first | omega | (have t := leI c6; omega))
        have n7 : 10 ≤ j1 := by have t := leI c6; rw [show (nI (j1)).toInt = ((j1 : Nat) : Int) from tn49_ ()] at t; have : (10 : Int32).toInt = 10 := qI_10; omega
        obtain ⟨hP9, hD9⟩ := va_sub2 (ws' := [(h0, .inr (4, [.long 1, .ref sa, .ref aa])), (sa, .inl (G 1, 10, .inr (.inl g2))), (aa, .inl (G 1, 10, .inr (.inl g)))]) hP hD [0, 1, 2] (by decide) rfl
        refine W.widen (k := 0) (n := 0) (Nat.le_of_ble_eq_true rfl) (Nat.le_of_ble_eq_true rfl) ?_
        exact W.vret hx hb hr (fun t ht hW => ⟨⟨(1, g2, g), rfl, trivial, ⟨by rw [ht]; exact hP9, hD9⟩⟩, hS.F ht⟩) hS.2.2 dX4_begin_35
      · skip
        have tn50_ : nIT j1 := fun _ => nI_toInt (by first | omega | (have t := nleI c6; omega))
        have n8 : j1 < 10 := by have t := nleI c6; rw [show (nI (j1)).toInt = ((j1 : Nat) : Int) from tn50_ ()] at t; have : (10 : Int32).toInt = 10 := qI_10; omega
        refine lv_aload_n hx hb dX4_begin_13 rfl (lv_at hl 1 rfl) ?_
        refine va_get (D := (dC, dI)) (ci := 4) (v := .ref sa) (C := RX4) (T := TX4) (N := 3) hx hb hg inG4 hown hK.1 hP 0 rfl rfl 1 (Nat.le_of_ble_eq_true rfl) (hg _ wt_158) (fun _ h9 => h9) rfl dX4_begin_14 ?_
        refine lv_iload_n hx hb dX4_begin_17 rfl (lv_at hl 0 rfl) ?_
        refine lv_iload_n hx hb dX4_begin_18 rfl (lv_at hl 0 rfl) ?_
        refine lv_iload_n hx hb dX4_begin_19 rfl (lv_at hl 2 rfl) ?_
        refine lv_icmp_ne (tgt := 27) hx hb dX4_begin_20 rfl (fun c9 => ?_) (fun c9 => ?_)
        · skip
          refine lv_lconst (v := 0) hx hb dX4_begin_27 (by decide) ?_
          refine va_last hx hb hK.1 hP hD hS 1 1 rfl rfl (vp_in_nI (by first | omega | (have t_hj5 := hj5; have t_n8 := n8; have t_c9 := neI c9; have t_n0 : (nI j1).toInt = (j1 : Int) := tn50_ (); omega)) (by decide)) dX4_begin_28 (fun H locs hP hD hS => ?_)
          rw [nI_clamp (by omega)] at hP hD
          refine lv_iinc (v := nI (j1 + 1)) (lv' := [(2, .int (nI (j1 + 1))), (0, .ref h0), (1, .int i)]) hx hb dX4_begin_29 hl (k := 0) rfl (by rw [show Int32.ofInt 1 = nI 1 from by decide]; exact nI_add _ _) (by decide) rfl (fun ls hl => ?_)
          refine lv_goto (tgt := 7) hx hb dX4_begin_32 rfl ?_
          exact ih7_3 (j1 + 1) (by omega) (by omega) (vp_updL g2 j1 0) _ _ hP hD hS ls (lv_sub hl [0, 1, 2] rfl)
        · skip
          refine lv_lconst (v := 1) hx hb dX4_begin_23 (by decide) ?_
          refine lv_goto (tgt := 28) hx hb dX4_begin_24 rfl ?_
          refine va_last hx hb hK.1 hP hD hS 1 1 rfl rfl (vp_in_nI (by first | omega | (have t_hj5 := hj5; have t_n8 := n8; have t_c9 := eqI c9; have t_n0 : (nI j1).toInt = (j1 : Int) := tn50_ (); omega)) (by decide)) dX4_begin_28 (fun H locs hP hD hS => ?_)
          rw [nI_clamp (by omega)] at hP hD
          refine lv_iinc (v := nI (j1 + 1)) (lv' := [(2, .int (nI (j1 + 1))), (0, .ref h0), (1, .int i)]) hx hb dX4_begin_29 hl (k := 0) rfl (by rw [show Int32.ofInt 1 = nI 1 from by decide]; exact nI_add _ _) (by decide) rfl (fun ls hl => ?_)
          refine lv_goto (tgt := 7) hx hb dX4_begin_32 rfl ?_
          exact ih7_3 (j1 + 1) (by omega) (by omega) (vp_updL g2 j1 1) _ _ hP hD hS ls (lv_sub hl [0, 1, 2] rfl)
  exact loop7_3 (10 + 1) 0 (by omega) (by omega) f _ _ hP hD hS ls (lv_sub hl [0, 1, 2] rfl)

set_option maxHeartbeats 1000000 in
set_option maxRecDepth 100000 in
theorem c_X4_takeAhead (l : Launch) (dC : Nat → ClassId) (dI : Nat → Nat → Nat) (G : Nat → ClassId) (sz : Nat) (h0 sa aa : Nat) (w0 : Int64) (f g : Nat → Int64)  : Met l yX4_takeAhead (Cond.code yX4_takeAhead cX4_takeAhead 2 none :: GT) ({ frames := 0, cells := 0, slots := 0, locals := 0 } : Room) (PcW [.ref h0] dC dI G [(h0, .inr (4, [.long w0, .ref sa, .ref aa])), (sa, .inl (G 1, 10, .inr (.inl f))), (aa, .inl (G 1, 10, .inr (.inl g)))] sz) (va_Qv (fun (u : Int64 × (Nat → Int64) × (Nat → Int64)) => match u with | (u0, u1, u2) => True) (fun (u : Int64 × (Nat → Int64) × (Nat → Int64)) (t : State) => match u with | (u0, u1, u2) => va_P (dC, dI) vwCl [(h0, .inr (4, [.long u0, .ref sa, .ref aa])), (sa, .inl (G 1, 10, .inr (.inl u1))), (aa, .inl (G 1, 10, .inr (.inl u2)))] t.heap ∧ va_D (va_A [(h0, .inr (4, [.long w0, .ref sa, .ref aa])), (sa, .inl (G 1, 10, .inr (.inl f))), (aa, .inl (G 1, 10, .inr (.inl g)))] sz) [(h0, .inr (4, [.long u0, .ref sa, .ref aa])), (sa, .inl (G 1, 10, .inr (.inl u1))), (aa, .inl (G 1, 10, .inr (.inl u2)))]) (va_A [(h0, .inr (4, [.long w0, .ref sa, .ref aa])), (sa, .inl (G 1, 10, .inr (.inl f))), (aa, .inl (G 1, 10, .inr (.inl g)))] sz)) 0 0 (va_A [(h0, .inr (4, [.long w0, .ref sa, .ref aa])), (sa, .inl (G 1, 10, .inr (.inl f))), (aa, .inl (G 1, 10, .inr (.inl g)))] sz) := by
  refine Met.ofW (cc := cX4_takeAhead) (maxL := 2) (ret := none) (by decide) rfl ?_
  intro p e s m args below meth c s₁ Bd hml hv
  obtain ⟨rfl, hsz, hP, hK, hD0⟩ := hv
  have hx := Bd.exec
  have hb := Bd.bytes
  have hr := Bd.returns
  have hg : ∀ w ∈ GT, w.before ([.ref h0] : List Value).toArray s = true := fun w h => atoms_spec (ws := Cond.code yX4_takeAhead cX4_takeAhead 2 none :: GT) Bd.pre w (List.mem_cons_of_mem _ h)
  have hown : s.vm.findClass RX4 = some m.cls := findClass_of_methodNamed Bd.named
  have hlocks := Bd.notSynchronized
  subst hsz
  have hD := hD0.self (sz := s.heap.size)
  generalize hAe : va_A [(h0, .inr (4, [.long w0, .ref sa, .ref aa])), (sa, .inl (G 1, 10, .inr (.inl f))), (aa, .inl (G 1, 10, .inr (.inl g)))] s.heap.size = A at hD ⊢
  have hA : ∀ q : Nat, s.heap.size ≤ q → A q := fun q h => by rw [← hAe]; exact Or.inr h
  have hS : va_S A s.heap s.heap [] := va_S.rf
  have hl := lv_entry ([.ref h0]) (n := 2) (Nat.le_of_ble_eq_true rfl)
  rw [lg_entry_eq]
  generalize (lg_sl ([.ref h0]) ++ List.replicate (2 - (lg_sl ([.ref h0])).length) Slot.unset).toArray = ls at hl ⊢
  have hl : lv_has ls 2 [(0, .ref h0)] := hl
  refine lv_iconst (v := 0) hx hb dX4_takeAhead_0 rfl ?_
  refine lv_istore_n (lv' := [(1, .int 0), (0, .ref h0)]) hx hb dX4_takeAhead_1 rfl hl (by decide) rfl (fun ls hl => ?_)
  have loop2_4 : ∀ (nf j1 : Nat), 10 + 1 ≤ j1 + nf → j1 ≤ 10 → ∀ (g2 : Nat → Int64) (g3 : Nat → Int64) (H : Heap) (locs : List Loc), va_P (dC, dI) vwCl [(h0, .inr (4, [.long w0, .ref sa, .ref aa])), (sa, .inl (G 1, 10, .inr (.inl g2))), (aa, .inl (G 1, 10, .inr (.inl g3)))] H → va_D A [(h0, .inr (4, [.long w0, .ref sa, .ref aa])), (sa, .inl (G 1, 10, .inr (.inl g2))), (aa, .inl (G 1, 10, .inr (.inl g3)))] → va_S A s.heap H locs → ∀ (ls : Array Slot), lv_has ls 2 [(1, .int (nI j1)), (0, .ref h0)] → W p l e (headSpec (Cond.code yX4_takeAhead cX4_takeAhead 2 none :: GT) ({ frames := 0, cells := 0, slots := 0, locals := 0 } : Room)).room s m ([.ref h0] : List Value).toArray below meth c H locs 0 0 (MQ below (va_Qv (fun (u : Int64 × (Nat → Int64) × (Nat → Int64)) => match u with | (u0, u1, u2) => True) (fun (u : Int64 × (Nat → Int64) × (Nat → Int64)) (t : State) => match u with | (u0, u1, u2) => va_P (dC, dI) vwCl [(h0, .inr (4, [.long u0, .ref sa, .ref aa])), (sa, .inl (G 1, 10, .inr (.inl u1))), (aa, .inl (G 1, 10, .inr (.inl u2)))] t.heap ∧ va_D A [(h0, .inr (4, [.long u0, .ref sa, .ref aa])), (sa, .inl (G 1, 10, .inr (.inl u1))), (aa, .inl (G 1, 10, .inr (.inl u2)))]) A) ([.ref h0] : List Value).toArray s 0 0 A) (F0 m 2 ls []) := by
    intro nf
    induction nf with
    | zero => intro j1 h1 h2; exact absurd h1 (by omega)
    | succ nf ih2_4 =>
      intro j1 hn5 hj6 g2 g3 H locs hP hD hS ls hl
      refine lv_iload_n hx hb dX4_takeAhead_2 rfl (lv_at hl 0 rfl) ?_
      refine lv_bipush (v := 10) hx hb dX4_takeAhead_3 rfl ?_
      refine lv_icmp_ge (tgt := 33) hx hb dX4_takeAhead_5 rfl (fun c7 => ?_) (fun c7 => ?_)
      · skip
        have tn51_ : nIT j1 := fun _ => nI_toInt (by first | omega | (have t := leI c7; omega))
        have n8 : 10 ≤ j1 := by have t := leI c7; rw [show (nI (j1)).toInt = ((j1 : Nat) : Int) from tn51_ ()] at t; have : (10 : Int32).toInt = 10 := qI_10; omega
        obtain ⟨hP9, hD9⟩ := va_sub2 (ws' := [(h0, .inr (4, [.long w0, .ref sa, .ref aa])), (sa, .inl (G 1, 10, .inr (.inl g2))), (aa, .inl (G 1, 10, .inr (.inl g3)))]) hP hD [0, 1, 2] (by decide) rfl
        refine W.widen (k := 0) (n := 0) (Nat.le_of_ble_eq_true rfl) (Nat.le_of_ble_eq_true rfl) ?_
        exact W.vret hx hb hr (fun t ht hW => ⟨⟨(w0, g2, g3), rfl, trivial, ⟨by rw [ht]; exact hP9, hD9⟩⟩, hS.F ht⟩) hS.2.2 dX4_takeAhead_33
      · skip
        have tn52_ : nIT j1 := fun _ => nI_toInt (by first | omega | (have t := nleI c7; omega))
        have n9 : j1 < 10 := by have t := nleI c7; rw [show (nI (j1)).toInt = ((j1 : Nat) : Int) from tn52_ ()] at t; have : (10 : Int32).toInt = 10 := qI_10; omega
        refine lv_aload_n hx hb dX4_takeAhead_8 rfl (lv_at hl 1 rfl) ?_
        refine va_get (D := (dC, dI)) (ci := 4) (v := .ref aa) (C := RX4) (T := TX4) (N := 3) hx hb hg inG4 hown hK.1 hP 0 rfl rfl 2 (Nat.le_of_ble_eq_true rfl) (hg _ wt_160) (fun _ h9 => h9) rfl dX4_takeAhead_9 ?_
        refine lv_iload_n hx hb dX4_takeAhead_12 rfl (lv_at hl 0 rfl) ?_
        refine lv_aload_n hx hb dX4_takeAhead_13 rfl (lv_at hl 1 rfl) ?_
        refine va_get (D := (dC, dI)) (ci := 4) (v := .ref sa) (C := RX4) (T := TX4) (N := 3) hx hb hg inG4 hown hK.1 hP 0 rfl rfl 1 (Nat.le_of_ble_eq_true rfl) (hg _ wt_158) (fun _ h9 => h9) rfl dX4_takeAhead_14 ?_
        refine lv_iload_n hx hb dX4_takeAhead_17 rfl (lv_at hl 0 rfl) ?_
        refine va_lald hx hb hK.1 hP 1 1 rfl rfl (vp_in_nI (by first | omega | (have t_hj6 := hj6; have t_n9 := n9; have t_n0 : (nI j1).toInt = (j1 : Int) := tn52_ (); omega)) (by decide)) dX4_takeAhead_18 ?_
        refine lv_cgl (y := g2 j1) (by rw [nI_clamp (by omega)]) ?_
        refine va_last hx hb hK.1 hP hD hS 2 1 rfl rfl (vp_in_nI (by first | omega | (have t_hj6 := hj6; have t_n9 := n9; have t_n0 : (nI j1).toInt = (j1 : Int) := tn52_ (); omega)) (by decide)) dX4_takeAhead_19 (fun H locs hP hD hS => ?_)
        rw [nI_clamp (by omega)] at hP hD
        refine lv_aload_n hx hb dX4_takeAhead_20 rfl (lv_at hl 1 rfl) ?_
        refine va_get (D := (dC, dI)) (ci := 4) (v := .ref sa) (C := RX4) (T := TX4) (N := 3) hx hb hg inG4 hown hK.1 hP 0 rfl rfl 1 (Nat.le_of_ble_eq_true rfl) (hg _ wt_158) (fun _ h9 => h9) rfl dX4_takeAhead_21 ?_
        refine lv_iload_n hx hb dX4_takeAhead_24 rfl (lv_at hl 0 rfl) ?_
        refine lv_lconst (v := 0) hx hb dX4_takeAhead_25 (by decide) ?_
        refine va_last hx hb hK.1 hP hD hS 1 1 rfl rfl (vp_in_nI (by first | omega | (have t_hj6 := hj6; have t_n9 := n9; have t_n0 : (nI j1).toInt = (j1 : Int) := tn52_ (); omega)) (by decide)) dX4_takeAhead_26 (fun H locs hP hD hS => ?_)
        rw [nI_clamp (by omega)] at hP hD
        refine lv_iinc (v := nI (j1 + 1)) (lv' := [(1, .int (nI (j1 + 1))), (0, .ref h0)]) hx hb dX4_takeAhead_27 hl (k := 0) rfl (by rw [show Int32.ofInt 1 = nI 1 from by decide]; exact nI_add _ _) (by decide) rfl (fun ls hl => ?_)
        refine lv_goto (tgt := 2) hx hb dX4_takeAhead_30 rfl ?_
        exact ih2_4 (j1 + 1) (by omega) (by omega) (vp_updL g2 j1 0) (vp_updL g3 j1 (g2 j1)) _ _ hP hD hS ls (lv_sub hl [0, 1] rfl)
  exact loop2_4 (10 + 1) 0 (by omega) (by omega) f g _ _ hP hD hS ls (lv_sub hl [0, 1] rfl)

set_option maxHeartbeats 1000000 in
set_option maxRecDepth 100000 in
theorem c_X4_pass (l : Launch) (dC : Nat → ClassId) (dI : Nat → Nat → Nat) (G : Nat → ClassId) (sz : Nat) (h0 sa aa : Nat) (i : Int32) (w0 : Int64) (f g : Nat → Int64)  : Met l yX4_pass (Cond.code yX4_pass cX4_pass 3 none :: GT) ({ frames := 1, cells := 0, slots := 0, locals := 21 } : Room) (PcW [.ref h0, .int i] dC dI G [(h0, .inr (4, [.long w0, .ref sa, .ref aa])), (sa, .inl (G 1, 10, .inr (.inl f))), (aa, .inl (G 1, 10, .inr (.inl g)))] sz) (va_Qv (fun (u : Int64 × (Nat → Int64) × (Nat → Int64)) => match u with | (u0, u1, u2) => True) (fun (u : Int64 × (Nat → Int64) × (Nat → Int64)) (t : State) => match u with | (u0, u1, u2) => va_P (dC, dI) vwCl [(h0, .inr (4, [.long u0, .ref sa, .ref aa])), (sa, .inl (G 1, 10, .inr (.inl u1))), (aa, .inl (G 1, 10, .inr (.inl u2)))] t.heap ∧ va_D (va_A [(h0, .inr (4, [.long w0, .ref sa, .ref aa])), (sa, .inl (G 1, 10, .inr (.inl f))), (aa, .inl (G 1, 10, .inr (.inl g)))] sz) [(h0, .inr (4, [.long u0, .ref sa, .ref aa])), (sa, .inl (G 1, 10, .inr (.inl u1))), (aa, .inl (G 1, 10, .inr (.inl u2)))]) (va_A [(h0, .inr (4, [.long w0, .ref sa, .ref aa])), (sa, .inl (G 1, 10, .inr (.inl f))), (aa, .inl (G 1, 10, .inr (.inl g)))] sz)) 0 0 (va_A [(h0, .inr (4, [.long w0, .ref sa, .ref aa])), (sa, .inl (G 1, 10, .inr (.inl f))), (aa, .inl (G 1, 10, .inr (.inl g)))] sz) := by
  refine Met.ofW (cc := cX4_pass) (maxL := 3) (ret := none) (by decide) rfl ?_
  intro p e s m args below meth c s₁ Bd hml hv
  obtain ⟨rfl, hsz, hP, hK, hD0⟩ := hv
  have hx := Bd.exec
  have hb := Bd.bytes
  have hr := Bd.returns
  have hg : ∀ w ∈ GT, w.before ([.ref h0, .int i] : List Value).toArray s = true := fun w h => atoms_spec (ws := Cond.code yX4_pass cX4_pass 3 none :: GT) Bd.pre w (List.mem_cons_of_mem _ h)
  have hown : s.vm.findClass RX4 = some m.cls := findClass_of_methodNamed Bd.named
  have hlocks := Bd.notSynchronized
  subst hsz
  have hD := hD0.self (sz := s.heap.size)
  generalize hAe : va_A [(h0, .inr (4, [.long w0, .ref sa, .ref aa])), (sa, .inl (G 1, 10, .inr (.inl f))), (aa, .inl (G 1, 10, .inr (.inl g)))] s.heap.size = A at hD ⊢
  have hA : ∀ q : Nat, s.heap.size ≤ q → A q := fun q h => by rw [← hAe]; exact Or.inr h
  have hS : va_S A s.heap s.heap [] := va_S.rf
  have hl := lv_entry ([.ref h0, .int i]) (n := 3) (Nat.le_of_ble_eq_true rfl)
  rw [lg_entry_eq]
  generalize (lg_sl ([.ref h0, .int i]) ++ List.replicate (3 - (lg_sl ([.ref h0, .int i])).length) Slot.unset).toArray = ls at hl ⊢
  have hl : lv_has ls 3 [(0, .ref h0), (1, .int i)] := hl
  refine lv_aload_n hx hb dX4_pass_0 rfl (lv_at hl 0 rfl) ?_
  obtain ⟨hPc, hDc, hFc⟩ := va_sub3 (ws' := [(h0, .inr (4, [.long w0, .ref sa, .ref aa])), (sa, .inl (G 1, 10, .inr (.inl f))), (aa, .inl (G 1, 10, .inr (.inl g)))]) hP hD hS hA [0, 1, 2] (by decide) rfl
  refine va_callv (va_runV (As := []) (rest := []) ⟨hx, hb, hml, hown, hg⟩ (c_X4_takeAhead l dC dI G _ h0 sa aa w0 f g) (kwV hg mfX4_takeAhead wt_620 ⟨Nat.le_of_ble_eq_true rfl, Nat.le_of_ble_eq_true rfl⟩) (preVW hK hPc hDc (ci := 4) rfl rfl) rfl rfl hl.1 rfl (lv_room (Nat.le_of_ble_eq_true rfl)) dX4_pass_1 ⟨Nat.le_of_ble_eq_true rfl, Nat.le_of_ble_eq_true rfl⟩) hS (fun q _ h => hFc q h) hFc (fun ur1 t H1 locs ht hvm w2 hB hz1 hk1 hS => ?_)
  obtain ⟨u3, u4, u5⟩ := ur1
  obtain ⟨hP1, hD1⟩ := hB
  rw [ht] at hP1
  obtain ⟨hP, hD⟩ := va_join (wr := []) (w1 := [(h0, .inr (4, [.long u3, .ref sa, .ref aa])), (sa, .inl (G 1, 10, .inr (.inl u4))), (aa, .inl (G 1, 10, .inr (.inl u5)))]) hP hD [0, 1, 2] [] rfl rfl (by decide) (by decide) hk1 hFc hP1 hD1
  generalize H1 = H at hP hS ⊢
  refine lv_aload_n hx hb dX4_pass_4 rfl (lv_at hl 0 rfl) ?_
  refine lv_dup hx hb dX4_pass_5 rfl ?_
  refine va_get (D := (dC, dI)) (ci := 4) (v := .long u3) (C := RX4) (T := TX4) (N := 3) hx hb hg inG4 hown hK.1 hP 0 rfl rfl 0 (Nat.le_of_ble_eq_true rfl) (hg _ wt_156) (fun _ h9 => h9) rfl dX4_pass_6 ?_
  refine lv_ldc2 (v := 20) hx hb hown (hg _ wt_634) dX4_pass_9 ?_
  refine lv_lmul hx hb dX4_pass_12 ?_
  refine va_put (D := (dC, dI)) (ci := 4) (v := .long (u3 * 20)) (ty := .long) (C := RX4) (T := TX4) (N := 3) hx hb hg inG4 tyX4 tyX4_ok nmX4 hown hK.1 hP hD hS 0 rfl rfl 0 (Nat.le_of_ble_eq_true rfl) (hg _ wt_156) (fun _ h9 => h9) rfl (by decide +kernel) rfl rfl (Nat.le_of_ble_eq_true rfl) dX4_pass_13 (fun H locs hP hD hS => ?_)
  refine lv_aload_n hx hb dX4_pass_16 rfl (lv_at hl 0 rfl) ?_
  refine va_get (D := (dC, dI)) (ci := 4) (v := .ref sa) (C := RX4) (T := TX4) (N := 3) hx hb hg inG4 hown hK.1 hP 0 rfl rfl 1 (Nat.le_of_ble_eq_true rfl) (hg _ wt_158) (fun _ h9 => h9) rfl dX4_pass_17 ?_
  refine lv_iconst (v := 0) hx hb dX4_pass_20 rfl ?_
  refine lv_aload_n hx hb dX4_pass_21 rfl (lv_at hl 0 rfl) ?_
  refine va_get (D := (dC, dI)) (ci := 4) (v := .ref aa) (C := RX4) (T := TX4) (N := 3) hx hb hg inG4 hown hK.1 hP 0 rfl rfl 2 (Nat.le_of_ble_eq_true rfl) (hg _ wt_160) (fun _ h9 => h9) rfl dX4_pass_22 ?_
  refine lv_iconst (v := 0) hx hb dX4_pass_25 rfl ?_
  refine va_lald hx hb hK.1 hP 2 1 rfl rfl (vp_in_iff.mpr ⟨by decide, by decide⟩) dX4_pass_26 ?_
  refine lv_cgl (y := u5 0) (by rfl) ?_
  refine lv_ldc2 (v := 20) hx hb hown (hg _ wt_634) dX4_pass_27 ?_
  refine lv_lmul hx hb dX4_pass_30 ?_
  refine va_last hx hb hK.1 hP hD hS 1 1 rfl rfl (vp_in_iff.mpr ⟨by decide, by decide⟩) dX4_pass_31 (fun H locs hP hD hS => ?_)
  refine lv_iconst (v := 1) hx hb dX4_pass_32 rfl ?_
  refine lv_istore_n (lv' := [(2, .int 1), (0, .ref h0), (1, .int i)]) hx hb dX4_pass_33 rfl hl (by decide) rfl (fun ls hl => ?_)
  have loop34_8 : ∀ (nf j6 : Nat), 10 + 1 ≤ j6 + nf → j6 ≤ 10 → 1 ≤ j6 → ∀ (g7 : Nat → Int64) (H : Heap) (locs : List Loc), va_P (dC, dI) vwCl [(h0, .inr (4, [.long (u3 * 20), .ref sa, .ref aa])), (sa, .inl (G 1, 10, .inr (.inl g7))), (aa, .inl (G 1, 10, .inr (.inl u5)))] H → va_D A [(h0, .inr (4, [.long (u3 * 20), .ref sa, .ref aa])), (sa, .inl (G 1, 10, .inr (.inl g7))), (aa, .inl (G 1, 10, .inr (.inl u5)))] → va_S A s.heap H locs → ∀ (ls : Array Slot), lv_has ls 3 [(2, .int (nI j6)), (0, .ref h0), (1, .int i)] → W p l e (headSpec (Cond.code yX4_pass cX4_pass 3 none :: GT) ({ frames := 1, cells := 0, slots := 0, locals := 21 } : Room)).room s m ([.ref h0, .int i] : List Value).toArray below meth c H locs 0 0 (MQ below (va_Qv (fun (u : Int64 × (Nat → Int64) × (Nat → Int64)) => match u with | (u0, u1, u2) => True) (fun (u : Int64 × (Nat → Int64) × (Nat → Int64)) (t : State) => match u with | (u0, u1, u2) => va_P (dC, dI) vwCl [(h0, .inr (4, [.long u0, .ref sa, .ref aa])), (sa, .inl (G 1, 10, .inr (.inl u1))), (aa, .inl (G 1, 10, .inr (.inl u2)))] t.heap ∧ va_D A [(h0, .inr (4, [.long u0, .ref sa, .ref aa])), (sa, .inl (G 1, 10, .inr (.inl u1))), (aa, .inl (G 1, 10, .inr (.inl u2)))]) A) ([.ref h0, .int i] : List Value).toArray s 0 0 A) (F0 m 34 ls []) := by
    intro nf
    induction nf with
    | zero => intro j6 h1 h2; exact absurd h1 (by omega)
    | succ nf ih34_8 =>
      intro j6 hn9 hj10 hlo_j6 g7 H locs hP hD hS ls hl
      refine lv_iload_n hx hb dX4_pass_34 rfl (lv_at hl 0 rfl) ?_
      refine lv_bipush (v := 10) hx hb dX4_pass_35 rfl ?_
      refine lv_icmp_ge (tgt := 94) hx hb dX4_pass_37 rfl (fun c11 => ?_) (fun c11 => ?_)
      · skip
        have tn53_ : nIT j6 := fun _ => nI_toInt (by first | omega | (have t := leI c11; omega))
        have n12 : 10 ≤ j6 := by have t := leI c11; rw [show (nI (j6)).toInt = ((j6 : Nat) : Int) from tn53_ ()] at t; have : (10 : Int32).toInt = 10 := qI_10; omega
        obtain ⟨hP9, hD9⟩ := va_sub2 (ws' := [(h0, .inr (4, [.long (u3 * 20), .ref sa, .ref aa])), (sa, .inl (G 1, 10, .inr (.inl g7))), (aa, .inl (G 1, 10, .inr (.inl u5)))]) hP hD [0, 1, 2] (by decide) rfl
        refine W.widen (k := 0) (n := 0) (Nat.le_of_ble_eq_true rfl) (Nat.le_of_ble_eq_true rfl) ?_
        exact W.vret hx hb hr (fun t ht hW => ⟨⟨((u3 * 20), g7, u5), rfl, trivial, ⟨by rw [ht]; exact hP9, hD9⟩⟩, hS.F ht⟩) hS.2.2 dX4_pass_94
      · skip
        have tn54_ : nIT j6 := fun _ => nI_toInt (by first | omega | (have t := nleI c11; omega))
        have n13 : j6 < 10 := by have t := nleI c11; rw [show (nI (j6)).toInt = ((j6 : Nat) : Int) from tn54_ ()] at t; have : (10 : Int32).toInt = 10 := qI_10; omega
        refine lv_aload_n hx hb dX4_pass_40 rfl (lv_at hl 1 rfl) ?_
        refine va_get (D := (dC, dI)) (ci := 4) (v := .ref sa) (C := RX4) (T := TX4) (N := 3) hx hb hg inG4 hown hK.1 hP 0 rfl rfl 1 (Nat.le_of_ble_eq_true rfl) (hg _ wt_158) (fun _ h9 => h9) rfl dX4_pass_41 ?_
        refine lv_iload_n hx hb dX4_pass_44 rfl (lv_at hl 0 rfl) ?_
        refine lv_iconst (v := 1) hx hb dX4_pass_45 rfl ?_
        refine lv_isub hx hb dX4_pass_46 ?_
        refine lv_cg (y := nI (j6 - 1)) (by rw [show (1 : Int32) = nI 1 from rfl]; exact pk_sub (by have t_hj10 := hj10; have t_hlo_j6 := hlo_j6; have t_n13 := n13; have t_n0 : (nI j6).toInt = (j6 : Int) := tn54_ (); omega)) ?_
        refine lv_dup2_11 hx hb dX4_pass_47 rfl rfl ?_
        refine va_lald hx hb hK.1 hP 1 1 rfl rfl (vp_in_nI (by first | omega | (have t_hj10 := hj10; have t_hlo_j6 := hlo_j6; have t_n13 := n13; have t_n0 : (nI j6).toInt = (j6 : Int) := tn54_ (); omega)) (by decide)) dX4_pass_48 ?_
        refine lv_cgl (y := g7 (j6 - 1)) (by rw [nI_clamp (by omega)]) ?_
        refine lv_aload_n hx hb dX4_pass_49 rfl (lv_at hl 1 rfl) ?_
        refine va_get (D := (dC, dI)) (ci := 4) (v := .ref aa) (C := RX4) (T := TX4) (N := 3) hx hb hg inG4 hown hK.1 hP 0 rfl rfl 2 (Nat.le_of_ble_eq_true rfl) (hg _ wt_160) (fun _ h9 => h9) rfl dX4_pass_50 ?_
        refine lv_iload_n hx hb dX4_pass_53 rfl (lv_at hl 0 rfl) ?_
        refine va_lald hx hb hK.1 hP 2 1 rfl rfl (vp_in_nI (by first | omega | (have t_hj10 := hj10; have t_hlo_j6 := hlo_j6; have t_n13 := n13; have t_n0 : (nI j6).toInt = (j6 : Int) := tn54_ (); omega)) (by decide)) dX4_pass_54 ?_
        refine lv_cgl (y := u5 j6) (by rw [nI_clamp (by omega)]) ?_
        refine lv_iload_n hx hb dX4_pass_55 rfl (lv_at hl 2 rfl) ?_
        refine lv_i2l (v := i.toInt64) hx hb dX4_pass_56 rfl ?_
        refine lv_lmul hx hb dX4_pass_57 ?_
        refine lv_ladd hx hb dX4_pass_58 ?_
        refine va_last hx hb hK.1 hP hD hS 1 1 rfl rfl (vp_in_nI (by first | omega | (have t_hj10 := hj10; have t_hlo_j6 := hlo_j6; have t_n13 := n13; have t_n0 : (nI j6).toInt = (j6 : Int) := tn54_ (); omega)) (by decide)) dX4_pass_59 (fun H locs hP hD hS => ?_)
        rw [nI_clamp (by omega)] at hP hD
        refine lv_aload_n hx hb dX4_pass_60 rfl (lv_at hl 1 rfl) ?_
        refine va_get (D := (dC, dI)) (ci := 4) (v := .ref sa) (C := RX4) (T := TX4) (N := 3) hx hb hg inG4 hown hK.1 hP 0 rfl rfl 1 (Nat.le_of_ble_eq_true rfl) (hg _ wt_158) (fun _ h9 => h9) rfl dX4_pass_61 ?_
        refine lv_bipush (v := 9) hx hb dX4_pass_64 rfl ?_
        refine lv_iload_n hx hb dX4_pass_66 rfl (lv_at hl 0 rfl) ?_
        refine lv_iconst (v := 1) hx hb dX4_pass_67 rfl ?_
        refine lv_iadd hx hb dX4_pass_68 ?_
        refine lv_cg (y := nI (j6 + 1)) (by rw [show (1 : Int32) = nI 1 from rfl]; exact nI_add _ _) ?_
        have hPc := hP.sub (ws' := []) [] rfl
        refine va_calli (va_runS (As := [.int 9, .int (nI (j6 + 1))]) (rest := [.ref sa]) ⟨hx, hb, hml, hown, hg⟩ (c_J9_min l dC dI G _ 9 (nI (j6 + 1))) (kwS hg mfJ9_min_7cf53 wt_624 ⟨Nat.le_of_ble_eq_true rfl, Nat.le_of_ble_eq_true rfl⟩) (preSR hK hPc) rfl rfl hl.1 rfl (lv_room (Nat.le_of_ble_eq_true rfl)) dX4_pass_69 ⟨Nat.le_of_ble_eq_true rfl, Nat.le_of_ble_eq_true rfl⟩) hS (fun q h1 h2 => absurd h2 (Nat.not_le.mpr h1)) (fun q h => hA q (Nat.le_trans hS.1 h)) (fun r14 ur14 t H1 locs ht hvm w15 hB hz1 hk1 hS => ?_)
        have hP := keepR hP hk1
        obtain ⟨w15, w15x⟩ := w15
        have w15 : r14 = nI (min 9 (j6 + 1)) := w15.trans (mn_nI (a := 9) (b := (j6 + 1)) (by omega) (by omega))
        subst w15
        refine lv_dup2_11 hx hb dX4_pass_72 rfl rfl ?_
        refine va_lald hx hb hK.1 hP 1 1 rfl rfl (vp_in_nI (by first | omega | (have t_hj10 := hj10; have t_hlo_j6 := hlo_j6; have t_n13 := n13; have t_n0 : (nI j6).toInt = (j6 : Int) := tn54_ (); omega)) (by decide)) dX4_pass_73 ?_
        refine lv_cgl (y := (vp_updL g7 (j6 - 1) ((g7 (j6 - 1)) + ((u5 j6) * i.toInt64))) (min 9 (j6 + 1))) (by rw [nI_clamp (by omega)]) ?_
        refine lv_aload_n hx hb dX4_pass_74 rfl (lv_at hl 1 rfl) ?_
        refine va_get (D := (dC, dI)) (ci := 4) (v := .ref aa) (C := RX4) (T := TX4) (N := 3) hx hb hg inG4 hown hK.1 hP 0 rfl rfl 2 (Nat.le_of_ble_eq_true rfl) (hg _ wt_160) (fun _ h9 => h9) rfl dX4_pass_75 ?_
        refine lv_iload_n hx hb dX4_pass_78 rfl (lv_at hl 0 rfl) ?_
        refine va_lald hx hb hK.1 hP 2 1 rfl rfl (vp_in_nI (by first | omega | (have t_hj10 := hj10; have t_hlo_j6 := hlo_j6; have t_n13 := n13; have t_n0 : (nI j6).toInt = (j6 : Int) := tn54_ (); omega)) (by decide)) dX4_pass_79 ?_
        refine lv_cgl (y := u5 j6) (by rw [nI_clamp (by omega)]) ?_
        refine lv_bipush (v := 20) hx hb dX4_pass_80 rfl ?_
        refine lv_iload_n hx hb dX4_pass_82 rfl (lv_at hl 2 rfl) ?_
        refine lv_isub hx hb dX4_pass_83 ?_
        refine lv_i2l (v := (20 - i).toInt64) hx hb dX4_pass_84 rfl ?_
        refine lv_lmul hx hb dX4_pass_85 ?_
        refine lv_ladd hx hb dX4_pass_86 ?_
        refine va_last hx hb hK.1 hP hD hS 1 1 rfl rfl (vp_in_nI (by first | omega | (have t_hj10 := hj10; have t_hlo_j6 := hlo_j6; have t_n13 := n13; have t_n0 : (nI j6).toInt = (j6 : Int) := tn54_ (); omega)) (by decide)) dX4_pass_87 (fun H locs hP hD hS => ?_)
        rw [nI_clamp (by omega)] at hP hD
        refine lv_iinc (v := nI (j6 + 1)) (lv' := [(2, .int (nI (j6 + 1))), (0, .ref h0), (1, .int i)]) hx hb dX4_pass_88 hl (k := 0) rfl (by rw [show Int32.ofInt 1 = nI 1 from by decide]; exact nI_add _ _) (by decide) rfl (fun ls hl => ?_)
        refine lv_goto (tgt := 34) hx hb dX4_pass_91 rfl ?_
        exact ih34_8 (j6 + 1) (by omega) (by omega) (by omega) (vp_updL (vp_updL g7 (j6 - 1) ((g7 (j6 - 1)) + ((u5 j6) * i.toInt64))) (min 9 (j6 + 1)) (((vp_updL g7 (j6 - 1) ((g7 (j6 - 1)) + ((u5 j6) * i.toInt64))) (min 9 (j6 + 1))) + ((u5 j6) * ((20 - i).toInt64)))) _ _ hP hD hS ls (lv_sub hl [0, 1, 2] rfl)
  exact loop34_8 (10 + 1) 1 (by omega) (by omega) (by omega) (vp_updL u4 0 ((u5 0) * 20)) _ _ hP hD hS ls (lv_sub hl [0, 1, 2] rfl)

set_option maxHeartbeats 1000000 in
set_option maxRecDepth 100000 in
theorem c_X4_deepen (l : Launch) (dC : Nat → ClassId) (dI : Nat → Nat → Nat) (G : Nat → ClassId) (sz : Nat) (h0 sa aa : Nat) (w0 : Int64) (f g : Nat → Int64)  : Met l yX4_deepen (Cond.code yX4_deepen cX4_deepen 2 none :: GT) ({ frames := 1, cells := 0, slots := 0, locals := 21 } : Room) (PcW [.ref h0] dC dI G [(h0, .inr (4, [.long w0, .ref sa, .ref aa])), (sa, .inl (G 1, 10, .inr (.inl f))), (aa, .inl (G 1, 10, .inr (.inl g)))] sz) (va_Qv (fun (u : Int64 × (Nat → Int64) × (Nat → Int64)) => match u with | (u0, u1, u2) => True) (fun (u : Int64 × (Nat → Int64) × (Nat → Int64)) (t : State) => match u with | (u0, u1, u2) => va_P (dC, dI) vwCl [(h0, .inr (4, [.long u0, .ref sa, .ref aa])), (sa, .inl (G 1, 10, .inr (.inl u1))), (aa, .inl (G 1, 10, .inr (.inl u2)))] t.heap ∧ va_D (va_A [(h0, .inr (4, [.long w0, .ref sa, .ref aa])), (sa, .inl (G 1, 10, .inr (.inl f))), (aa, .inl (G 1, 10, .inr (.inl g)))] sz) [(h0, .inr (4, [.long u0, .ref sa, .ref aa])), (sa, .inl (G 1, 10, .inr (.inl u1))), (aa, .inl (G 1, 10, .inr (.inl u2)))]) (va_A [(h0, .inr (4, [.long w0, .ref sa, .ref aa])), (sa, .inl (G 1, 10, .inr (.inl f))), (aa, .inl (G 1, 10, .inr (.inl g)))] sz)) 0 0 (va_A [(h0, .inr (4, [.long w0, .ref sa, .ref aa])), (sa, .inl (G 1, 10, .inr (.inl f))), (aa, .inl (G 1, 10, .inr (.inl g)))] sz) := by
  refine Met.ofW (cc := cX4_deepen) (maxL := 2) (ret := none) (by decide) rfl ?_
  intro p e s m args below meth c s₁ Bd hml hv
  obtain ⟨rfl, hsz, hP, hK, hD0⟩ := hv
  have hx := Bd.exec
  have hb := Bd.bytes
  have hr := Bd.returns
  have hg : ∀ w ∈ GT, w.before ([.ref h0] : List Value).toArray s = true := fun w h => atoms_spec (ws := Cond.code yX4_deepen cX4_deepen 2 none :: GT) Bd.pre w (List.mem_cons_of_mem _ h)
  have hown : s.vm.findClass RX4 = some m.cls := findClass_of_methodNamed Bd.named
  have hlocks := Bd.notSynchronized
  subst hsz
  have hD := hD0.self (sz := s.heap.size)
  generalize hAe : va_A [(h0, .inr (4, [.long w0, .ref sa, .ref aa])), (sa, .inl (G 1, 10, .inr (.inl f))), (aa, .inl (G 1, 10, .inr (.inl g)))] s.heap.size = A at hD ⊢
  have hA : ∀ q : Nat, s.heap.size ≤ q → A q := fun q h => by rw [← hAe]; exact Or.inr h
  have hS : va_S A s.heap s.heap [] := va_S.rf
  have hl := lv_entry ([.ref h0]) (n := 2) (Nat.le_of_ble_eq_true rfl)
  rw [lg_entry_eq]
  generalize (lg_sl ([.ref h0]) ++ List.replicate (2 - (lg_sl ([.ref h0])).length) Slot.unset).toArray = ls at hl ⊢
  have hl : lv_has ls 2 [(0, .ref h0)] := hl
  refine lv_aload_n hx hb dX4_deepen_0 rfl (lv_at hl 0 rfl) ?_
  obtain ⟨hPc, hDc, hFc⟩ := va_sub3 (ws' := [(h0, .inr (4, [.long w0, .ref sa, .ref aa])), (sa, .inl (G 1, 10, .inr (.inl f))), (aa, .inl (G 1, 10, .inr (.inl g)))]) hP hD hS hA [0, 1, 2] (by decide) rfl
  refine va_callv (va_runV (As := []) (rest := []) ⟨hx, hb, hml, hown, hg⟩ (c_X4_takeAhead l dC dI G _ h0 sa aa w0 f g) (kwV hg mfX4_takeAhead wt_620 ⟨Nat.le_of_ble_eq_true rfl, Nat.le_of_ble_eq_true rfl⟩) (preVW hK hPc hDc (ci := 4) rfl rfl) rfl rfl hl.1 rfl (lv_room (Nat.le_of_ble_eq_true rfl)) dX4_deepen_1 ⟨Nat.le_of_ble_eq_true rfl, Nat.le_of_ble_eq_true rfl⟩) hS (fun q _ h => hFc q h) hFc (fun ur1 t H1 locs ht hvm w2 hB hz1 hk1 hS => ?_)
  obtain ⟨u3, u4, u5⟩ := ur1
  obtain ⟨hP1, hD1⟩ := hB
  rw [ht] at hP1
  obtain ⟨hP, hD⟩ := va_join (wr := []) (w1 := [(h0, .inr (4, [.long u3, .ref sa, .ref aa])), (sa, .inl (G 1, 10, .inr (.inl u4))), (aa, .inl (G 1, 10, .inr (.inl u5)))]) hP hD [0, 1, 2] [] rfl rfl (by decide) (by decide) hk1 hFc hP1 hD1
  generalize H1 = H at hP hS ⊢
  refine lv_aload_n hx hb dX4_deepen_4 rfl (lv_at hl 0 rfl) ?_
  refine va_get (D := (dC, dI)) (ci := 4) (v := .ref sa) (C := RX4) (T := TX4) (N := 3) hx hb hg inG4 hown hK.1 hP 0 rfl rfl 1 (Nat.le_of_ble_eq_true rfl) (hg _ wt_158) (fun _ h9 => h9) rfl dX4_deepen_5 ?_
  refine lv_iconst (v := 0) hx hb dX4_deepen_8 rfl ?_
  refine lv_aload_n hx hb dX4_deepen_9 rfl (lv_at hl 0 rfl) ?_
  refine va_get (D := (dC, dI)) (ci := 4) (v := .ref aa) (C := RX4) (T := TX4) (N := 3) hx hb hg inG4 hown hK.1 hP 0 rfl rfl 2 (Nat.le_of_ble_eq_true rfl) (hg _ wt_160) (fun _ h9 => h9) rfl dX4_deepen_10 ?_
  refine lv_iconst (v := 0) hx hb dX4_deepen_13 rfl ?_
  refine va_lald hx hb hK.1 hP 2 1 rfl rfl (vp_in_iff.mpr ⟨by decide, by decide⟩) dX4_deepen_14 ?_
  refine lv_cgl (y := u5 0) (by rfl) ?_
  refine va_last hx hb hK.1 hP hD hS 1 1 rfl rfl (vp_in_iff.mpr ⟨by decide, by decide⟩) dX4_deepen_15 (fun H locs hP hD hS => ?_)
  refine lv_iconst (v := 1) hx hb dX4_deepen_16 rfl ?_
  refine lv_istore_n (lv' := [(1, .int 1), (0, .ref h0)]) hx hb dX4_deepen_17 rfl hl (by decide) rfl (fun ls hl => ?_)
  have loop18_8 : ∀ (nf j6 : Nat), 10 + 1 ≤ j6 + nf → j6 ≤ 10 → 1 ≤ j6 → ∀ (g7 : Nat → Int64) (H : Heap) (locs : List Loc), va_P (dC, dI) vwCl [(h0, .inr (4, [.long u3, .ref sa, .ref aa])), (sa, .inl (G 1, 10, .inr (.inl g7))), (aa, .inl (G 1, 10, .inr (.inl u5)))] H → va_D A [(h0, .inr (4, [.long u3, .ref sa, .ref aa])), (sa, .inl (G 1, 10, .inr (.inl g7))), (aa, .inl (G 1, 10, .inr (.inl u5)))] → va_S A s.heap H locs → ∀ (ls : Array Slot), lv_has ls 2 [(1, .int (nI j6)), (0, .ref h0)] → W p l e (headSpec (Cond.code yX4_deepen cX4_deepen 2 none :: GT) ({ frames := 1, cells := 0, slots := 0, locals := 21 } : Room)).room s m ([.ref h0] : List Value).toArray below meth c H locs 0 0 (MQ below (va_Qv (fun (u : Int64 × (Nat → Int64) × (Nat → Int64)) => match u with | (u0, u1, u2) => True) (fun (u : Int64 × (Nat → Int64) × (Nat → Int64)) (t : State) => match u with | (u0, u1, u2) => va_P (dC, dI) vwCl [(h0, .inr (4, [.long u0, .ref sa, .ref aa])), (sa, .inl (G 1, 10, .inr (.inl u1))), (aa, .inl (G 1, 10, .inr (.inl u2)))] t.heap ∧ va_D A [(h0, .inr (4, [.long u0, .ref sa, .ref aa])), (sa, .inl (G 1, 10, .inr (.inl u1))), (aa, .inl (G 1, 10, .inr (.inl u2)))]) A) ([.ref h0] : List Value).toArray s 0 0 A) (F0 m 18 ls []) := by
    intro nf
    induction nf with
    | zero => intro j6 h1 h2; exact absurd h1 (by omega)
    | succ nf ih18_8 =>
      intro j6 hn9 hj10 hlo_j6 g7 H locs hP hD hS ls hl
      refine lv_iload_n hx hb dX4_deepen_18 rfl (lv_at hl 0 rfl) ?_
      refine lv_bipush (v := 10) hx hb dX4_deepen_19 rfl ?_
      refine lv_icmp_ge (tgt := 52) hx hb dX4_deepen_21 rfl (fun c11 => ?_) (fun c11 => ?_)
      · skip
        have tn55_ : nIT j6 := fun _ => nI_toInt (by first | omega | (have t := leI c11; omega))
        have n12 : 10 ≤ j6 := by have t := leI c11; rw [show (nI (j6)).toInt = ((j6 : Nat) : Int) from tn55_ ()] at t; have : (10 : Int32).toInt = 10 := qI_10; omega
        obtain ⟨hP9, hD9⟩ := va_sub2 (ws' := [(h0, .inr (4, [.long u3, .ref sa, .ref aa])), (sa, .inl (G 1, 10, .inr (.inl g7))), (aa, .inl (G 1, 10, .inr (.inl u5)))]) hP hD [0, 1, 2] (by decide) rfl
        refine W.widen (k := 0) (n := 0) (Nat.le_of_ble_eq_true rfl) (Nat.le_of_ble_eq_true rfl) ?_
        exact W.vret hx hb hr (fun t ht hW => ⟨⟨(u3, g7, u5), rfl, trivial, ⟨by rw [ht]; exact hP9, hD9⟩⟩, hS.F ht⟩) hS.2.2 dX4_deepen_52
      · skip
        have tn56_ : nIT j6 := fun _ => nI_toInt (by first | omega | (have t := nleI c11; omega))
        have n13 : j6 < 10 := by have t := nleI c11; rw [show (nI (j6)).toInt = ((j6 : Nat) : Int) from tn56_ ()] at t; have : (10 : Int32).toInt = 10 := qI_10; omega
        refine lv_aload_n hx hb dX4_deepen_24 rfl (lv_at hl 1 rfl) ?_
        refine va_get (D := (dC, dI)) (ci := 4) (v := .ref sa) (C := RX4) (T := TX4) (N := 3) hx hb hg inG4 hown hK.1 hP 0 rfl rfl 1 (Nat.le_of_ble_eq_true rfl) (hg _ wt_158) (fun _ h9 => h9) rfl dX4_deepen_25 ?_
        refine lv_bipush (v := 9) hx hb dX4_deepen_28 rfl ?_
        refine lv_iload_n hx hb dX4_deepen_30 rfl (lv_at hl 0 rfl) ?_
        refine lv_iconst (v := 2) hx hb dX4_deepen_31 rfl ?_
        refine lv_iadd hx hb dX4_deepen_32 ?_
        refine lv_cg (y := nI (j6 + 2)) (by rw [show (2 : Int32) = nI 2 from rfl]; exact nI_add _ _) ?_
        have hPc := hP.sub (ws' := []) [] rfl
        refine va_calli (va_runS (As := [.int 9, .int (nI (j6 + 2))]) (rest := [.ref sa]) ⟨hx, hb, hml, hown, hg⟩ (c_J9_min l dC dI G _ 9 (nI (j6 + 2))) (kwS hg mfJ9_min_7cf53 wt_624 ⟨Nat.le_of_ble_eq_true rfl, Nat.le_of_ble_eq_true rfl⟩) (preSR hK hPc) rfl rfl hl.1 rfl (lv_room (Nat.le_of_ble_eq_true rfl)) dX4_deepen_33 ⟨Nat.le_of_ble_eq_true rfl, Nat.le_of_ble_eq_true rfl⟩) hS (fun q h1 h2 => absurd h2 (Nat.not_le.mpr h1)) (fun q h => hA q (Nat.le_trans hS.1 h)) (fun r14 ur14 t H1 locs ht hvm w15 hB hz1 hk1 hS => ?_)
        have hP := keepR hP hk1
        obtain ⟨w15, w15x⟩ := w15
        have w15 : r14 = nI (min 9 (j6 + 2)) := w15.trans (mn_nI (a := 9) (b := (j6 + 2)) (by omega) (by omega))
        subst w15
        refine lv_dup2_11 hx hb dX4_deepen_36 rfl rfl ?_
        refine va_lald hx hb hK.1 hP 1 1 rfl rfl (vp_in_nI (by first | omega | (have t_hj10 := hj10; have t_hlo_j6 := hlo_j6; have t_n13 := n13; have t_n0 : (nI j6).toInt = (j6 : Int) := tn56_ (); omega)) (by decide)) dX4_deepen_37 ?_
        refine lv_cgl (y := g7 (min 9 (j6 + 2))) (by rw [nI_clamp (by omega)]) ?_
        refine lv_aload_n hx hb dX4_deepen_38 rfl (lv_at hl 1 rfl) ?_
        refine va_get (D := (dC, dI)) (ci := 4) (v := .ref aa) (C := RX4) (T := TX4) (N := 3) hx hb hg inG4 hown hK.1 hP 0 rfl rfl 2 (Nat.le_of_ble_eq_true rfl) (hg _ wt_160) (fun _ h9 => h9) rfl dX4_deepen_39 ?_
        refine lv_iload_n hx hb dX4_deepen_42 rfl (lv_at hl 0 rfl) ?_
        refine va_lald hx hb hK.1 hP 2 1 rfl rfl (vp_in_nI (by first | omega | (have t_hj10 := hj10; have t_hlo_j6 := hlo_j6; have t_n13 := n13; have t_n0 : (nI j6).toInt = (j6 : Int) := tn56_ (); omega)) (by decide)) dX4_deepen_43 ?_
        refine lv_cgl (y := u5 j6) (by rw [nI_clamp (by omega)]) ?_
        refine lv_ladd hx hb dX4_deepen_44 ?_
        refine va_last hx hb hK.1 hP hD hS 1 1 rfl rfl (vp_in_nI (by first | omega | (have t_hj10 := hj10; have t_hlo_j6 := hlo_j6; have t_n13 := n13; have t_n0 : (nI j6).toInt = (j6 : Int) := tn56_ (); omega)) (by decide)) dX4_deepen_45 (fun H locs hP hD hS => ?_)
        rw [nI_clamp (by omega)] at hP hD
        refine lv_iinc (v := nI (j6 + 1)) (lv' := [(1, .int (nI (j6 + 1))), (0, .ref h0)]) hx hb dX4_deepen_46 hl (k := 0) rfl (by rw [show Int32.ofInt 1 = nI 1 from by decide]; exact nI_add _ _) (by decide) rfl (fun ls hl => ?_)
        refine lv_goto (tgt := 18) hx hb dX4_deepen_49 rfl ?_
        exact ih18_8 (j6 + 1) (by omega) (by omega) (by omega) (vp_updL g7 (min 9 (j6 + 2)) ((g7 (min 9 (j6 + 2))) + (u5 j6))) _ _ hP hD hS ls (lv_sub hl [0, 1] rfl)
  exact loop18_8 (10 + 1) 1 (by omega) (by omega) (by omega) (vp_updL u4 0 (u5 0)) _ _ hP hD hS ls (lv_sub hl [0, 1] rfl)

set_option maxHeartbeats 1000000 in
set_option maxRecDepth 100000 in
theorem c_X4_waking (l : Launch) (dC : Nat → ClassId) (dI : Nat → Nat → Nat) (G : Nat → ClassId) (sz : Nat) (h0 sa aa wy a1 a2 a3 a4 a5 a6 N B D M : Nat) (q1 : Int32) (w0 : Int64) (f1 f2 f3 f4 f5 f6 : Nat → Int32) (f g : Nat → Int64) (hN_N : N ≤ 10) (hB_B : B ≤ 6) (hD_D : 1 ≤ D ∧ D ≤ 9) (hM : M ≤ 10) : Met l yX4_waking (Cond.code yX4_waking cX4_waking 5 (some .long) :: GT) ({ frames := 4, cells := 0, slots := 0, locals := 88 } : Room) (PcW [.ref h0, .ref wy, .int (nI M), .int q1] dC dI G [(h0, .inr (4, [.long w0, .ref sa, .ref aa])), (sa, .inl (G 1, 10, .inr (.inl f))), (aa, .inl (G 1, 10, .inr (.inl g))), (wy, .inr (9, [.int (nI N), .int (nI B), .int (nI D), .ref a1, .ref a2, .ref a3, .ref a4, .ref a5, .ref a6])), (a1, .inl (G 0, 10, .inl f1)), (a2, .inl (G 0, 10, .inl f2)), (a3, .inl (G 0, 10, .inl f3)), (a4, .inl (G 0, 6, .inl f4)), (a5, .inl (G 0, 6, .inl f5)), (a6, .inl (G 0, 6, .inl f6))] sz) (va_Ql (fun (r : Int64) (u : Int64 × (Nat → Int64) × (Nat → Int64)) => match u with | (u0, u1, u2) => (True) ∧ True) (fun (u : Int64 × (Nat → Int64) × (Nat → Int64)) (t : State) => match u with | (u0, u1, u2) => va_P (dC, dI) vwCl [(h0, .inr (4, [.long u0, .ref sa, .ref aa])), (sa, .inl (G 1, 10, .inr (.inl u1))), (aa, .inl (G 1, 10, .inr (.inl u2))), (wy, .inr (9, [.int (nI N), .int (nI B), .int (nI D), .ref a1, .ref a2, .ref a3, .ref a4, .ref a5, .ref a6])), (a1, .inl (G 0, 10, .inl f1)), (a2, .inl (G 0, 10, .inl f2)), (a3, .inl (G 0, 10, .inl f3)), (a4, .inl (G 0, 6, .inl f4)), (a5, .inl (G 0, 6, .inl f5)), (a6, .inl (G 0, 6, .inl f6))] t.heap ∧ va_D (va_A [(h0, .inr (4, [.long w0, .ref sa, .ref aa])), (sa, .inl (G 1, 10, .inr (.inl f))), (aa, .inl (G 1, 10, .inr (.inl g))), (wy, .inr (9, [.int (nI N), .int (nI B), .int (nI D), .ref a1, .ref a2, .ref a3, .ref a4, .ref a5, .ref a6])), (a1, .inl (G 0, 10, .inl f1)), (a2, .inl (G 0, 10, .inl f2)), (a3, .inl (G 0, 10, .inl f3)), (a4, .inl (G 0, 6, .inl f4)), (a5, .inl (G 0, 6, .inl f5)), (a6, .inl (G 0, 6, .inl f6))] sz) [(h0, .inr (4, [.long u0, .ref sa, .ref aa])), (sa, .inl (G 1, 10, .inr (.inl u1))), (aa, .inl (G 1, 10, .inr (.inl u2))), (wy, .inr (9, [.int (nI N), .int (nI B), .int (nI D), .ref a1, .ref a2, .ref a3, .ref a4, .ref a5, .ref a6])), (a1, .inl (G 0, 10, .inl f1)), (a2, .inl (G 0, 10, .inl f2)), (a3, .inl (G 0, 10, .inl f3)), (a4, .inl (G 0, 6, .inl f4)), (a5, .inl (G 0, 6, .inl f5)), (a6, .inl (G 0, 6, .inl f6))]) (va_A [(h0, .inr (4, [.long w0, .ref sa, .ref aa])), (sa, .inl (G 1, 10, .inr (.inl f))), (aa, .inl (G 1, 10, .inr (.inl g))), (wy, .inr (9, [.int (nI N), .int (nI B), .int (nI D), .ref a1, .ref a2, .ref a3, .ref a4, .ref a5, .ref a6])), (a1, .inl (G 0, 10, .inl f1)), (a2, .inl (G 0, 10, .inl f2)), (a3, .inl (G 0, 10, .inl f3)), (a4, .inl (G 0, 6, .inl f4)), (a5, .inl (G 0, 6, .inl f5)), (a6, .inl (G 0, 6, .inl f6))] sz)) 0 0 (va_A [(h0, .inr (4, [.long w0, .ref sa, .ref aa])), (sa, .inl (G 1, 10, .inr (.inl f))), (aa, .inl (G 1, 10, .inr (.inl g))), (wy, .inr (9, [.int (nI N), .int (nI B), .int (nI D), .ref a1, .ref a2, .ref a3, .ref a4, .ref a5, .ref a6])), (a1, .inl (G 0, 10, .inl f1)), (a2, .inl (G 0, 10, .inl f2)), (a3, .inl (G 0, 10, .inl f3)), (a4, .inl (G 0, 6, .inl f4)), (a5, .inl (G 0, 6, .inl f5)), (a6, .inl (G 0, 6, .inl f6))] sz) := by
  have tn57_ : nIT N := fun _ => nI_toInt (by omega)
  have tn58_ : nIT B := fun _ => nI_toInt (by omega)
  have tn59_ : nIT D := fun _ => nI_toInt (by omega)
  have tn60_ : nIT M := fun _ => nI_toInt (by omega)
  refine Met.ofW (cc := cX4_waking) (maxL := 5) (ret := (some .long)) (by decide) rfl ?_
  intro p e s m args below meth c s₁ Bd hml hv
  obtain ⟨rfl, hsz, hP, hK, hD0⟩ := hv
  have hx := Bd.exec
  have hb := Bd.bytes
  have hr := Bd.returns
  have hg : ∀ w ∈ GT, w.before ([.ref h0, .ref wy, .int (nI M), .int q1] : List Value).toArray s = true := fun w h => atoms_spec (ws := Cond.code yX4_waking cX4_waking 5 (some .long) :: GT) Bd.pre w (List.mem_cons_of_mem _ h)
  have hown : s.vm.findClass RX4 = some m.cls := findClass_of_methodNamed Bd.named
  have hlocks := Bd.notSynchronized
  subst hsz
  have hD := hD0.self (sz := s.heap.size)
  generalize hAe : va_A [(h0, .inr (4, [.long w0, .ref sa, .ref aa])), (sa, .inl (G 1, 10, .inr (.inl f))), (aa, .inl (G 1, 10, .inr (.inl g))), (wy, .inr (9, [.int (nI N), .int (nI B), .int (nI D), .ref a1, .ref a2, .ref a3, .ref a4, .ref a5, .ref a6])), (a1, .inl (G 0, 10, .inl f1)), (a2, .inl (G 0, 10, .inl f2)), (a3, .inl (G 0, 10, .inl f3)), (a4, .inl (G 0, 6, .inl f4)), (a5, .inl (G 0, 6, .inl f5)), (a6, .inl (G 0, 6, .inl f6))] s.heap.size = A at hD ⊢
  have hA : ∀ q : Nat, s.heap.size ≤ q → A q := fun q h => by rw [← hAe]; exact Or.inr h
  have hS : va_S A s.heap s.heap [] := va_S.rf
  have hl := lv_entry ([.ref h0, .ref wy, .int (nI M), .int q1]) (n := 5) (Nat.le_of_ble_eq_true rfl)
  rw [lg_entry_eq]
  generalize (lg_sl ([.ref h0, .ref wy, .int (nI M), .int q1]) ++ List.replicate (5 - (lg_sl ([.ref h0, .ref wy, .int (nI M), .int q1])).length) Slot.unset).toArray = ls at hl ⊢
  have hl : lv_has ls 5 [(0, .ref h0), (1, .ref wy), (2, .int (nI M)), (3, .int q1)] := hl
  refine lv_aload_n hx hb dX4_waking_0 rfl (lv_at hl 0 rfl) ?_
  refine lv_aload_n hx hb dX4_waking_1 rfl (lv_at hl 1 rfl) ?_
  refine va_getN (D := (dC, dI)) (ci := 9) (v := .int (nI D)) (C := RX9) (T := TX9) (N := 9) hx hb hg inG9 hown hK.1 hP 3 rfl rfl 2 (Nat.le_of_ble_eq_true rfl) (hK.nest wn_67) (fun _ h9 => h9) rfl dX4_waking_2 ?_
  obtain ⟨hPc, hDc, hFc⟩ := va_sub3 (ws' := [(h0, .inr (4, [.long w0, .ref sa, .ref aa])), (sa, .inl (G 1, 10, .inr (.inl f))), (aa, .inl (G 1, 10, .inr (.inl g)))]) hP hD hS hA [0, 1, 2] (by decide) rfl
  refine va_callv (va_runV (As := [.int (nI D)]) (rest := []) ⟨hx, hb, hml, hown, hg⟩ (c_X4_begin l dC dI G _ h0 sa aa (nI D) w0 f g) (kwV hg mfX4_begin wt_612 ⟨Nat.le_of_ble_eq_true rfl, Nat.le_of_ble_eq_true rfl⟩) (preVW hK hPc hDc (ci := 4) rfl rfl) rfl rfl hl.1 rfl (lv_room (Nat.le_of_ble_eq_true rfl)) dX4_waking_5 ⟨Nat.le_of_ble_eq_true rfl, Nat.le_of_ble_eq_true rfl⟩) hS (fun q _ h => hFc q h) hFc (fun ur1 t H1 locs ht hvm w2 hB hz1 hk1 hS => ?_)
  obtain ⟨u3, u4, u5⟩ := ur1
  obtain ⟨hP1, hD1⟩ := hB
  rw [ht] at hP1
  obtain ⟨hP, hD⟩ := va_join (wr := [(wy, .inr (9, [.int (nI N), .int (nI B), .int (nI D), .ref a1, .ref a2, .ref a3, .ref a4, .ref a5, .ref a6])), (a1, .inl (G 0, 10, .inl f1)), (a2, .inl (G 0, 10, .inl f2)), (a3, .inl (G 0, 10, .inl f3)), (a4, .inl (G 0, 6, .inl f4)), (a5, .inl (G 0, 6, .inl f5)), (a6, .inl (G 0, 6, .inl f6))]) (w1 := [(h0, .inr (4, [.long u3, .ref sa, .ref aa])), (sa, .inl (G 1, 10, .inr (.inl u4))), (aa, .inl (G 1, 10, .inr (.inl u5)))]) hP hD [0, 1, 2] [3, 4, 5, 6, 7, 8, 9] rfl rfl (by decide) (by decide) hk1 hFc hP1 hD1
  generalize H1 = H at hP hS ⊢
  refine lv_iconst (v := 0) hx hb dX4_waking_8 rfl ?_
  refine lv_istore (lv' := [(4, .int 0), (0, .ref h0), (1, .ref wy), (2, .int (nI M)), (3, .int q1)]) hx hb dX4_waking_9 hl (by decide) rfl (fun ls hl => ?_)
  have loop11_10 : ∀ (nf j6 : Nat), M + 1 ≤ j6 + nf → j6 ≤ M → ∀ (y7 : Int64) (g8 : Nat → Int64) (g9 : Nat → Int64) (H : Heap) (locs : List Loc), va_P (dC, dI) vwCl [(wy, .inr (9, [.int (nI N), .int (nI B), .int (nI D), .ref a1, .ref a2, .ref a3, .ref a4, .ref a5, .ref a6])), (a1, .inl (G 0, 10, .inl f1)), (a2, .inl (G 0, 10, .inl f2)), (a3, .inl (G 0, 10, .inl f3)), (a4, .inl (G 0, 6, .inl f4)), (a5, .inl (G 0, 6, .inl f5)), (a6, .inl (G 0, 6, .inl f6)), (h0, .inr (4, [.long y7, .ref sa, .ref aa])), (sa, .inl (G 1, 10, .inr (.inl g8))), (aa, .inl (G 1, 10, .inr (.inl g9)))] H → va_D A [(wy, .inr (9, [.int (nI N), .int (nI B), .int (nI D), .ref a1, .ref a2, .ref a3, .ref a4, .ref a5, .ref a6])), (a1, .inl (G 0, 10, .inl f1)), (a2, .inl (G 0, 10, .inl f2)), (a3, .inl (G 0, 10, .inl f3)), (a4, .inl (G 0, 6, .inl f4)), (a5, .inl (G 0, 6, .inl f5)), (a6, .inl (G 0, 6, .inl f6)), (h0, .inr (4, [.long y7, .ref sa, .ref aa])), (sa, .inl (G 1, 10, .inr (.inl g8))), (aa, .inl (G 1, 10, .inr (.inl g9)))] → va_S A s.heap H locs → ∀ (ls : Array Slot), lv_has ls 5 [(4, .int (nI j6)), (0, .ref h0), (1, .ref wy), (2, .int (nI M)), (3, .int q1)] → W p l e (headSpec (Cond.code yX4_waking cX4_waking 5 (some .long) :: GT) ({ frames := 4, cells := 0, slots := 0, locals := 88 } : Room)).room s m ([.ref h0, .ref wy, .int (nI M), .int q1] : List Value).toArray below meth c H locs 0 0 (MQ below (va_Ql (fun (r : Int64) (u : Int64 × (Nat → Int64) × (Nat → Int64)) => match u with | (u0, u1, u2) => (True) ∧ True) (fun (u : Int64 × (Nat → Int64) × (Nat → Int64)) (t : State) => match u with | (u0, u1, u2) => va_P (dC, dI) vwCl [(h0, .inr (4, [.long u0, .ref sa, .ref aa])), (sa, .inl (G 1, 10, .inr (.inl u1))), (aa, .inl (G 1, 10, .inr (.inl u2))), (wy, .inr (9, [.int (nI N), .int (nI B), .int (nI D), .ref a1, .ref a2, .ref a3, .ref a4, .ref a5, .ref a6])), (a1, .inl (G 0, 10, .inl f1)), (a2, .inl (G 0, 10, .inl f2)), (a3, .inl (G 0, 10, .inl f3)), (a4, .inl (G 0, 6, .inl f4)), (a5, .inl (G 0, 6, .inl f5)), (a6, .inl (G 0, 6, .inl f6))] t.heap ∧ va_D A [(h0, .inr (4, [.long u0, .ref sa, .ref aa])), (sa, .inl (G 1, 10, .inr (.inl u1))), (aa, .inl (G 1, 10, .inr (.inl u2))), (wy, .inr (9, [.int (nI N), .int (nI B), .int (nI D), .ref a1, .ref a2, .ref a3, .ref a4, .ref a5, .ref a6])), (a1, .inl (G 0, 10, .inl f1)), (a2, .inl (G 0, 10, .inl f2)), (a3, .inl (G 0, 10, .inl f3)), (a4, .inl (G 0, 6, .inl f4)), (a5, .inl (G 0, 6, .inl f5)), (a6, .inl (G 0, 6, .inl f6))]) A) ([.ref h0, .ref wy, .int (nI M), .int q1] : List Value).toArray s 0 0 A) (F0 m 11 ls []) := by
    intro nf
    induction nf with
    | zero => intro j6 h1 h2; exact absurd h1 (by omega)
    | succ nf ih11_10 =>
      intro j6 hn11 hj12 y7 g8 g9 H locs hP hD hS ls hl
      refine lv_iload hx hb dX4_waking_11 (lv_at hl 0 rfl) ?_
      refine lv_iload_n hx hb dX4_waking_13 rfl (lv_at hl 3 rfl) ?_
      refine lv_icmp_ge (tgt := 43) hx hb dX4_waking_14 rfl (fun c13 => ?_) (fun c13 => ?_)
      · skip
        have tn61_ : nIT j6 := fun _ => nI_toInt (by first | omega | (have t := leI c13; omega))
        have n14 : M ≤ j6 := by have t := leI c13; rw [show (nI (j6)).toInt = ((j6 : Nat) : Int) from tn61_ ()] at t; rw [show (nI (M)).toInt = ((M : Nat) : Int) from tn60_ ()] at t; omega
        refine lv_aload_n hx hb dX4_waking_43 rfl (lv_at hl 1 rfl) ?_
        refine va_get (D := (dC, dI)) (ci := 4) (v := .ref sa) (C := RX4) (T := TX4) (N := 3) hx hb hg inG4 hown hK.1 hP 7 rfl rfl 1 (Nat.le_of_ble_eq_true rfl) (hg _ wt_158) (fun _ h9 => h9) rfl dX4_waking_44 ?_
        refine lv_iconst (v := 0) hx hb dX4_waking_47 rfl ?_
        refine va_lald hx hb hK.1 hP 8 1 rfl rfl (vp_in_iff.mpr ⟨by decide, by decide⟩) dX4_waking_48 ?_
        refine lv_cgl (y := g8 0) (by rfl) ?_
        have hpost : True := by
          trivial
        obtain ⟨hP9, hD9⟩ := va_sub2 (ws' := [(h0, .inr (4, [.long y7, .ref sa, .ref aa])), (sa, .inl (G 1, 10, .inr (.inl g8))), (aa, .inl (G 1, 10, .inr (.inl g9))), (wy, .inr (9, [.int (nI N), .int (nI B), .int (nI D), .ref a1, .ref a2, .ref a3, .ref a4, .ref a5, .ref a6])), (a1, .inl (G 0, 10, .inl f1)), (a2, .inl (G 0, 10, .inl f2)), (a3, .inl (G 0, 10, .inl f3)), (a4, .inl (G 0, 6, .inl f4)), (a5, .inl (G 0, 6, .inl f5)), (a6, .inl (G 0, 6, .inl f6))]) hP hD [7, 8, 9, 0, 1, 2, 3, 4, 5, 6] (by decide) rfl
        refine W.widen (k := 0) (n := 0) (Nat.le_of_ble_eq_true rfl) (Nat.le_of_ble_eq_true rfl) ?_
        exact W.lret (v := g8 0) hx hb hr (fun t ht hW => ⟨⟨g8 0, (y7, g8, g9), rfl, ⟨hpost, trivial⟩, ⟨by rw [ht]; exact hP9, hD9⟩⟩, hS.F ht⟩) hS.2.2 dX4_waking_49
      · skip
        have tn62_ : nIT j6 := fun _ => nI_toInt (by first | omega | (have t := nleI c13; omega))
        have n15 : j6 < M := by have t := nleI c13; rw [show (nI (j6)).toInt = ((j6 : Nat) : Int) from tn62_ ()] at t; rw [show (nI (M)).toInt = ((M : Nat) : Int) from tn60_ ()] at t; omega
        refine lv_iload hx hb dX4_waking_17 (lv_at hl 0 rfl) ?_
        refine lv_iload_n hx hb dX4_waking_19 rfl (lv_at hl 4 rfl) ?_
        refine lv_icmp_ne (tgt := 27) hx hb dX4_waking_20 rfl (fun c16 => ?_) (fun c16 => ?_)
        · skip
          refine lv_aload_n hx hb dX4_waking_27 rfl (lv_at hl 1 rfl) ?_
          refine lv_aload_n hx hb dX4_waking_28 rfl (lv_at hl 2 rfl) ?_
          refine lv_iload hx hb dX4_waking_29 (lv_at hl 0 rfl) ?_
          have hPc := hP.sub (ws' := [(wy, .inr (9, [.int (nI N), .int (nI B), .int (nI D), .ref a1, .ref a2, .ref a3, .ref a4, .ref a5, .ref a6])), (a1, .inl (G 0, 10, .inl f1)), (a2, .inl (G 0, 10, .inl f2)), (a3, .inl (G 0, 10, .inl f3)), (a4, .inl (G 0, 6, .inl f4)), (a5, .inl (G 0, 6, .inl f5)), (a6, .inl (G 0, 6, .inl f6))]) [0, 1, 2, 3, 4, 5, 6] rfl
          refine va_calli (va_runVN (As := [.int (nI j6)]) (rest := [.ref h0]) ⟨hx, hb, hml, hown, hg⟩ (c_X9_harmInOrder l dC dI G _ wy a1 a2 a3 a4 a5 a6 N B D (nI j6) f1 f2 f3 f4 f5 f6 hN_N hB_B hD_D) (kwVN hg hK mfX9_harmInOrder wn_625 ⟨Nat.le_of_ble_eq_true rfl, Nat.le_of_ble_eq_true rfl⟩) (preVR hK hPc (ci := 9) rfl rfl) rfl rfl hl.1 rfl (lv_room (Nat.le_of_ble_eq_true rfl)) dX4_waking_31 ⟨Nat.le_of_ble_eq_true rfl, Nat.le_of_ble_eq_true rfl⟩) hS (fun q h1 h2 => absurd h2 (Nat.not_le.mpr h1)) (fun q h => hA q (Nat.le_trans hS.1 h)) (fun r17 ur17 t H1 locs ht hvm w18 hB hz1 hk1 hS => ?_)
          have hP := keepR hP hk1
          obtain ⟨w18, w18x⟩ := w18
          subst w18
          obtain ⟨hPc, hDc, hFc⟩ := va_sub3 (ws' := [(h0, .inr (4, [.long y7, .ref sa, .ref aa])), (sa, .inl (G 1, 10, .inr (.inl g8))), (aa, .inl (G 1, 10, .inr (.inl g9)))]) hP hD hS hA [7, 8, 9] (by decide) rfl
          refine va_callv (va_runV (As := [.int (hmO N B f1 f2 f3 f4 f5 f6 (nI j6))]) (rest := []) ⟨hx, hb, hml, hown, hg⟩ (c_X4_pass l dC dI G _ h0 sa aa (hmO N B f1 f2 f3 f4 f5 f6 (nI j6)) y7 g8 g9) (kwV hg mfX4_pass wt_630 ⟨Nat.le_of_ble_eq_true rfl, Nat.le_of_ble_eq_true rfl⟩) (preVW hK hPc hDc (ci := 4) rfl rfl) rfl rfl hl.1 rfl (lv_room (Nat.le_of_ble_eq_true rfl)) dX4_waking_34 ⟨Nat.le_of_ble_eq_true rfl, Nat.le_of_ble_eq_true rfl⟩) hS (fun q _ h => hFc q h) hFc (fun ur19 t H1 locs ht hvm w20 hB hz1 hk1 hS => ?_)
          obtain ⟨u21, u22, u23⟩ := ur19
          obtain ⟨hP1, hD1⟩ := hB
          rw [ht] at hP1
          obtain ⟨hP, hD⟩ := va_join (wr := [(wy, .inr (9, [.int (nI N), .int (nI B), .int (nI D), .ref a1, .ref a2, .ref a3, .ref a4, .ref a5, .ref a6])), (a1, .inl (G 0, 10, .inl f1)), (a2, .inl (G 0, 10, .inl f2)), (a3, .inl (G 0, 10, .inl f3)), (a4, .inl (G 0, 6, .inl f4)), (a5, .inl (G 0, 6, .inl f5)), (a6, .inl (G 0, 6, .inl f6))]) (w1 := [(h0, .inr (4, [.long u21, .ref sa, .ref aa])), (sa, .inl (G 1, 10, .inr (.inl u22))), (aa, .inl (G 1, 10, .inr (.inl u23)))]) hP hD [7, 8, 9] [0, 1, 2, 3, 4, 5, 6] rfl rfl (by decide) (by decide) hk1 hFc hP1 hD1
          generalize H1 = H at hP hS ⊢
          refine lv_iinc (v := nI (j6 + 1)) (lv' := [(4, .int (nI (j6 + 1))), (0, .ref h0), (1, .ref wy), (2, .int (nI M)), (3, .int q1)]) hx hb dX4_waking_37 hl (k := 0) rfl (by rw [show Int32.ofInt 1 = nI 1 from by decide]; exact nI_add _ _) (by decide) rfl (fun ls hl => ?_)
          refine lv_goto (tgt := 11) hx hb dX4_waking_40 rfl ?_
          exact ih11_10 (j6 + 1) (by omega) (by omega) u21 u22 u23 _ _ hP hD hS ls (lv_sub hl [0, 1, 2, 3, 4] rfl)
        · skip
          refine lv_aload_n hx hb dX4_waking_23 rfl (lv_at hl 1 rfl) ?_
          obtain ⟨hPc, hDc, hFc⟩ := va_sub3 (ws' := [(h0, .inr (4, [.long y7, .ref sa, .ref aa])), (sa, .inl (G 1, 10, .inr (.inl g8))), (aa, .inl (G 1, 10, .inr (.inl g9)))]) hP hD hS hA [7, 8, 9] (by decide) rfl
          refine va_callv (va_runV (As := []) (rest := []) ⟨hx, hb, hml, hown, hg⟩ (c_X4_deepen l dC dI G _ h0 sa aa y7 g8 g9) (kwV hg mfX4_deepen wt_616 ⟨Nat.le_of_ble_eq_true rfl, Nat.le_of_ble_eq_true rfl⟩) (preVW hK hPc hDc (ci := 4) rfl rfl) rfl rfl hl.1 rfl (lv_room (Nat.le_of_ble_eq_true rfl)) dX4_waking_24 ⟨Nat.le_of_ble_eq_true rfl, Nat.le_of_ble_eq_true rfl⟩) hS (fun q _ h => hFc q h) hFc (fun ur24 t H1 locs ht hvm w25 hB hz1 hk1 hS => ?_)
          obtain ⟨u26, u27, u28⟩ := ur24
          obtain ⟨hP1, hD1⟩ := hB
          rw [ht] at hP1
          obtain ⟨hP, hD⟩ := va_join (wr := [(wy, .inr (9, [.int (nI N), .int (nI B), .int (nI D), .ref a1, .ref a2, .ref a3, .ref a4, .ref a5, .ref a6])), (a1, .inl (G 0, 10, .inl f1)), (a2, .inl (G 0, 10, .inl f2)), (a3, .inl (G 0, 10, .inl f3)), (a4, .inl (G 0, 6, .inl f4)), (a5, .inl (G 0, 6, .inl f5)), (a6, .inl (G 0, 6, .inl f6))]) (w1 := [(h0, .inr (4, [.long u26, .ref sa, .ref aa])), (sa, .inl (G 1, 10, .inr (.inl u27))), (aa, .inl (G 1, 10, .inr (.inl u28)))]) hP hD [7, 8, 9] [0, 1, 2, 3, 4, 5, 6] rfl rfl (by decide) (by decide) hk1 hFc hP1 hD1
          generalize H1 = H at hP hS ⊢
          refine lv_aload_n hx hb dX4_waking_27 rfl (lv_at hl 1 rfl) ?_
          refine lv_aload_n hx hb dX4_waking_28 rfl (lv_at hl 2 rfl) ?_
          refine lv_iload hx hb dX4_waking_29 (lv_at hl 0 rfl) ?_
          have hPc := hP.sub (ws' := [(wy, .inr (9, [.int (nI N), .int (nI B), .int (nI D), .ref a1, .ref a2, .ref a3, .ref a4, .ref a5, .ref a6])), (a1, .inl (G 0, 10, .inl f1)), (a2, .inl (G 0, 10, .inl f2)), (a3, .inl (G 0, 10, .inl f3)), (a4, .inl (G 0, 6, .inl f4)), (a5, .inl (G 0, 6, .inl f5)), (a6, .inl (G 0, 6, .inl f6))]) [0, 1, 2, 3, 4, 5, 6] rfl
          refine va_calli (va_runVN (As := [.int (nI j6)]) (rest := [.ref h0]) ⟨hx, hb, hml, hown, hg⟩ (c_X9_harmInOrder l dC dI G _ wy a1 a2 a3 a4 a5 a6 N B D (nI j6) f1 f2 f3 f4 f5 f6 hN_N hB_B hD_D) (kwVN hg hK mfX9_harmInOrder wn_625 ⟨Nat.le_of_ble_eq_true rfl, Nat.le_of_ble_eq_true rfl⟩) (preVR hK hPc (ci := 9) rfl rfl) rfl rfl hl.1 rfl (lv_room (Nat.le_of_ble_eq_true rfl)) dX4_waking_31 ⟨Nat.le_of_ble_eq_true rfl, Nat.le_of_ble_eq_true rfl⟩) hS (fun q h1 h2 => absurd h2 (Nat.not_le.mpr h1)) (fun q h => hA q (Nat.le_trans hS.1 h)) (fun r29 ur29 t H1 locs ht hvm w30 hB hz1 hk1 hS => ?_)
          have hP := keepR hP hk1
          obtain ⟨w30, w30x⟩ := w30
          subst w30
          obtain ⟨hPc, hDc, hFc⟩ := va_sub3 (ws' := [(h0, .inr (4, [.long u26, .ref sa, .ref aa])), (sa, .inl (G 1, 10, .inr (.inl u27))), (aa, .inl (G 1, 10, .inr (.inl u28)))]) hP hD hS hA [7, 8, 9] (by decide) rfl
          refine va_callv (va_runV (As := [.int (hmO N B f1 f2 f3 f4 f5 f6 (nI j6))]) (rest := []) ⟨hx, hb, hml, hown, hg⟩ (c_X4_pass l dC dI G _ h0 sa aa (hmO N B f1 f2 f3 f4 f5 f6 (nI j6)) u26 u27 u28) (kwV hg mfX4_pass wt_630 ⟨Nat.le_of_ble_eq_true rfl, Nat.le_of_ble_eq_true rfl⟩) (preVW hK hPc hDc (ci := 4) rfl rfl) rfl rfl hl.1 rfl (lv_room (Nat.le_of_ble_eq_true rfl)) dX4_waking_34 ⟨Nat.le_of_ble_eq_true rfl, Nat.le_of_ble_eq_true rfl⟩) hS (fun q _ h => hFc q h) hFc (fun ur31 t H1 locs ht hvm w32 hB hz1 hk1 hS => ?_)
          obtain ⟨u33, u34, u35⟩ := ur31
          obtain ⟨hP1, hD1⟩ := hB
          rw [ht] at hP1
          obtain ⟨hP, hD⟩ := va_join (wr := [(wy, .inr (9, [.int (nI N), .int (nI B), .int (nI D), .ref a1, .ref a2, .ref a3, .ref a4, .ref a5, .ref a6])), (a1, .inl (G 0, 10, .inl f1)), (a2, .inl (G 0, 10, .inl f2)), (a3, .inl (G 0, 10, .inl f3)), (a4, .inl (G 0, 6, .inl f4)), (a5, .inl (G 0, 6, .inl f5)), (a6, .inl (G 0, 6, .inl f6))]) (w1 := [(h0, .inr (4, [.long u33, .ref sa, .ref aa])), (sa, .inl (G 1, 10, .inr (.inl u34))), (aa, .inl (G 1, 10, .inr (.inl u35)))]) hP hD [7, 8, 9] [0, 1, 2, 3, 4, 5, 6] rfl rfl (by decide) (by decide) hk1 hFc hP1 hD1
          generalize H1 = H at hP hS ⊢
          refine lv_iinc (v := nI (j6 + 1)) (lv' := [(4, .int (nI (j6 + 1))), (0, .ref h0), (1, .ref wy), (2, .int (nI M)), (3, .int q1)]) hx hb dX4_waking_37 hl (k := 0) rfl (by rw [show Int32.ofInt 1 = nI 1 from by decide]; exact nI_add _ _) (by decide) rfl (fun ls hl => ?_)
          refine lv_goto (tgt := 11) hx hb dX4_waking_40 rfl ?_
          exact ih11_10 (j6 + 1) (by omega) (by omega) u33 u34 u35 _ _ hP hD hS ls (lv_sub hl [0, 1, 2, 3, 4] rfl)
  exact loop11_10 (M + 1) 0 (by omega) (by omega) u3 u4 u5 _ _ hP hD hS ls (lv_sub hl [0, 1, 2, 3, 4] rfl)
