set_option maxHeartbeats 1000000 in
set_option maxRecDepth 100000 in
theorem k_X10_harm (l : Launch) (dC : Nat → ClassId) (dI : Nat → Nat → Nat) (G : Nat → ClassId) (sz : Nat) (ax : Nat → Nat) (hi : adInj 129 ax) (T : Nat) (Y : Nat → Int32) (fa : Int32) (N : Nat) (B : Nat) (N1 : Nat) (B1 : Nat) (N2 : Nat) (B2 : Nat) (K : Nat → Int32) (S : Nat) (M : Nat) (E : Nat → Int32) (Z : Nat → Int32) (i : Int32) (g : Int32) (k : Int32) : Met l yX10_harm (Cond.code yX10_harm cX10_harm 4 (some .int) :: GT) ({ frames := 3, cells := 0, slots := 0, locals := 67 } : Room) (PcI [.ref (ax 0), .int i, .int g, .int k] dC dI G (X10I dC dI G ax T Y fa N B N1 B1 N2 B2 K S M E Z) sz) (va_Qi (fun (r : Int32) (_ : Unit) => True) (fun _ t => X10I dC dI G ax T Y fa N B N1 B1 N2 B2 K S M E Z t.heap) (adX 0 112 ax sz)) 0 0 (adX 0 112 ax sz) := by
  refine Met.pick (fun a st hp => ?_)
  obtain ⟨e0, hsz, hI, hK⟩ := hp
  subst hsz
  have hI0 := hI
  unfold X10I at hI
  obtain ⟨p0, p1, p2, p3, p4, p5, p6, p7, p8, p9, p10, p11, p12, p13, p14, p15, p16, hX⟩ := hI
  unfold X10Pr at p0
  obtain ⟨zi0_13, q0⟩ := p0
  unfold X10P1 at p4
  obtain ⟨zn11_2, zf12, zf13, zf14, zf15, zf16, zf17, p4j0, p4j1, p4j2, q11, q12, q13, q14, q15, q16, q17⟩ := p4
  refine ⟨_, _, _, c_X10_harm l dC dI G _ (ax 0) (ax 1) (ax 11) (ax 18) (ax 25) (ax 40) (ax 41) (ax 44) (ax 68) (ax 69) (ax 74) (ax 77) (ax 102) (ax 12) (ax 13) (ax 14) (ax 15) (ax 16) (ax 17) N B zn11_2 fa zi0_13 i g k zf12 zf13 zf15 zf16 zf17 (by assumption) (by assumption) (by assumption), ⟨e0, rfl, (vpc q0 (vpc q11 (vpc q12 (vpc q13 (vpc q15 (vpc q16 (vpc q17 va_nilP))))))), hK⟩, fun q h => Or.inr h, fun o t hq => ?_⟩
  obtain ⟨⟨r, u, ho, ⟨hr, hu⟩, -⟩, hF⟩ := hq
  exact ⟨⟨r, (), ho, trivial, hI0.kept (fun j _ _ h => hF.2 _ h (Nat.not_le.mpr h))⟩, hF.wide (fun q h => Or.inr h)⟩

set_option maxHeartbeats 1000000 in
set_option maxRecDepth 100000 in
theorem k_X10_wakes (l : Launch) (dC : Nat → ClassId) (dI : Nat → Nat → Nat) (G : Nat → ClassId) (sz : Nat) (ax : Nat → Nat) (hi : adInj 129 ax) (T : Nat) (Y : Nat → Int32) (fa : Int32) (N : Nat) (B : Nat) (N1 : Nat) (B1 : Nat) (N2 : Nat) (B2 : Nat) (K : Nat → Int32) (S : Nat) (M : Nat) (E : Nat → Int32) (Z : Nat → Int32) (what : Int32) : Met l yX10_wakes (Cond.code yX10_wakes cX10_wakes 2 (some .long) :: GT) ({ frames := 5, cells := 0, slots := 0, locals := 112 } : Room) (PcI [.ref (ax 0), .int what] dC dI G (X10I dC dI G ax T Y fa N B N1 B1 N2 B2 K S M E Z) sz) (va_Ql (fun (r : Int64) (_ : Unit) => True) (fun _ t => X10I dC dI G ax T Y fa N B N1 B1 N2 B2 K S M E Z t.heap) (adX 0 112 ax sz)) 0 0 (adX 0 112 ax sz) := by
  refine Met.pick (fun a st hp => ?_)
  obtain ⟨e0, hsz, hI, hK⟩ := hp
  subst hsz
  have hI0 := hI
  unfold X10I at hI
  obtain ⟨p0, p1, p2, p3, p4, p5, p6, p7, p8, p9, p10, p11, p12, p13, p14, p15, p16, hX⟩ := hI
  unfold X10Pr at p0
  obtain ⟨zi0_13, q0⟩ := p0
  unfold X10P1 at p4
  obtain ⟨zn11_2, zf12, zf13, zf14, zf15, zf16, zf17, p4j0, p4j1, p4j2, q11, q12, q13, q14, q15, q16, q17⟩ := p4
  unfold X10P5 at p10
  obtain ⟨zl41_0, zf42, zf43, q41, q42, q43⟩ := p10
  refine ⟨_, _, _, c_X10_wakes l dC dI G _ (ax 0) (ax 1) (ax 11) (ax 18) (ax 25) (ax 40) (ax 41) (ax 44) (ax 68) (ax 69) (ax 74) (ax 77) (ax 102) (ax 42) (ax 43) (ax 12) (ax 13) (ax 14) (ax 15) (ax 16) (ax 17) N B zn11_2 fa zi0_13 what zl41_0 zf12 zf13 zf14 zf15 zf16 zf17 zf42 zf43 (by assumption) (by assumption) (by assumption), ⟨e0, rfl, (vpc q0 (vpc q41 (vpc q42 (vpc q43 (vpc q11 (vpc q12 (vpc q13 (vpc q14 (vpc q15 (vpc q16 (vpc q17 va_nilP))))))))))), hK, vD_ix hi [0, 41, 42, 43, 11, 12, 13, 14, 15, 16, 17] (by rfl) (by decide) (by decide)⟩, ad_ix [0, 41, 42, 43, 11, 12, 13, 14, 15, 16, 17] (by rfl) (by decide), fun o t hq => ?_⟩
  obtain ⟨⟨r, ⟨u0, u1, u2⟩, ho, ⟨hr, hu⟩, hP1, -⟩, hF⟩ := hq
  have FR : ∀ lo hi' : Nat, hi' ≤ 129 → ([0, 41, 42, 43, 11, 12, 13, 14, 15, 16, 17] : List Nat).all (fun x => decide (x < lo) || decide (hi' ≤ x)) = true → ∀ j : Nat, lo ≤ j → j < hi' → ax j < st.heap.size → t.heap[ax j]? = st.heap[ax j]? := fun lo hi' h1 h2 => fr_ix hi h1 hF.2 [0, 41, 42, 43, 11, 12, 13, 14, 15, 16, 17] (by rfl) (by decide) h2
  have np0 : X10Pr dC dI G ax fa t.heap := ⟨zi0_13, hP1 0 _ rfl⟩
  have np4 : X10P1 dC dI G ax N B t.heap := ⟨zn11_2, zf12, zf13, zf14, zf15, zf16, zf17, p4j0, p4j1, p4j2, hP1 4 _ rfl, hP1 5 _ rfl, hP1 6 _ rfl, hP1 7 _ rfl, hP1 8 _ rfl, hP1 9 _ rfl, hP1 10 _ rfl⟩
  have np10 : X10P5 dC dI G ax t.heap := ⟨u0, u1, u2, hP1 1 _ rfl, hP1 2 _ rfl, hP1 3 _ rfl⟩
  exact ⟨⟨r, (), ho, trivial, ⟨np0, p1.kept (FR 1 2 (by decide) (by decide)), p2.kept (FR 2 4 (by decide) (by decide)), p3.kept (FR 4 11 (by decide) (by decide)), np4, p5.kept (FR 18 25 (by decide) (by decide)), p6.kept (FR 25 26 (by decide) (by decide)), p7.kept (FR 26 33 (by decide) (by decide)), p8.kept (FR 33 40 (by decide) (by decide)), p9.kept (FR 40 41 (by decide) (by decide)), np10, p11.kept (FR 44 68 (by decide) (by decide)), p12.kept (FR 68 69 (by decide) (by decide)), p13.kept (FR 69 74 (by decide) (by decide)), p14.kept (FR 74 77 (by decide) (by decide)), p15.kept (FR 77 102 (by decide) (by decide)), p16.kept (FR 102 112 (by decide) (by decide)), hX⟩⟩, hF.wide (ad_ix [0, 41, 42, 43, 11, 12, 13, 14, 15, 16, 17] (by rfl) (by decide))⟩

set_option maxHeartbeats 1000000 in
set_option maxRecDepth 100000 in
theorem k_X10_awake (l : Launch) (dC : Nat → ClassId) (dI : Nat → Nat → Nat) (G : Nat → ClassId) (sz : Nat) (ax : Nat → Nat) (hi : adInj 129 ax) (T : Nat) (Y : Nat → Int32) (fa : Int32) (N : Nat) (B : Nat) (N1 : Nat) (B1 : Nat) (N2 : Nat) (B2 : Nat) (K : Nat → Int32) (S : Nat) (M : Nat) (E : Nat → Int32) (Z : Nat → Int32) (i : Int32) (what : Int32) : Met l yX10_awake (Cond.code yX10_awake cX10_awake 3 (some .long) :: GT) ({ frames := 6, cells := 0, slots := 0, locals := 135 } : Room) (PcI [.ref (ax 0), .int i, .int what] dC dI G (X10I dC dI G ax T Y fa N B N1 B1 N2 B2 K S M E Z) sz) (va_Ql (fun (r : Int64) (_ : Unit) => True) (fun _ t => X10I dC dI G ax T Y fa N B N1 B1 N2 B2 K S M E Z t.heap) (adX 0 112 ax sz)) 0 0 (adX 0 112 ax sz) := by
  refine Met.pick (fun a st hp => ?_)
  obtain ⟨e0, hsz, hI, hK⟩ := hp
  subst hsz
  have hI0 := hI
  unfold X10I at hI
  obtain ⟨p0, p1, p2, p3, p4, p5, p6, p7, p8, p9, p10, p11, p12, p13, p14, p15, p16, hX⟩ := hI
  unfold X10Pr at p0
  obtain ⟨zi0_13, q0⟩ := p0
  unfold X10P1 at p4
  obtain ⟨zn11_2, zf12, zf13, zf14, zf15, zf16, zf17, p4j0, p4j1, p4j2, q11, q12, q13, q14, q15, q16, q17⟩ := p4
  unfold X10P5 at p10
  obtain ⟨zl41_0, zf42, zf43, q41, q42, q43⟩ := p10
  refine ⟨_, _, _, c_X10_awake l dC dI G _ (ax 0) (ax 1) (ax 11) (ax 18) (ax 25) (ax 40) (ax 41) (ax 44) (ax 68) (ax 69) (ax 74) (ax 77) (ax 102) (ax 42) (ax 43) (ax 12) (ax 13) (ax 14) (ax 15) (ax 16) (ax 17) N B zn11_2 fa zi0_13 i what zl41_0 zf12 zf13 zf14 zf15 zf16 zf17 zf42 zf43 (by assumption) (by assumption) (by assumption), ⟨e0, rfl, (vpc q0 (vpc q41 (vpc q42 (vpc q43 (vpc q11 (vpc q12 (vpc q13 (vpc q14 (vpc q15 (vpc q16 (vpc q17 va_nilP))))))))))), hK, vD_ix hi [0, 41, 42, 43, 11, 12, 13, 14, 15, 16, 17] (by rfl) (by decide) (by decide)⟩, ad_ix [0, 41, 42, 43, 11, 12, 13, 14, 15, 16, 17] (by rfl) (by decide), fun o t hq => ?_⟩
  obtain ⟨⟨r, ⟨u0, u1, u2⟩, ho, ⟨hr, hu⟩, hP1, -⟩, hF⟩ := hq
  have FR : ∀ lo hi' : Nat, hi' ≤ 129 → ([0, 41, 42, 43, 11, 12, 13, 14, 15, 16, 17] : List Nat).all (fun x => decide (x < lo) || decide (hi' ≤ x)) = true → ∀ j : Nat, lo ≤ j → j < hi' → ax j < st.heap.size → t.heap[ax j]? = st.heap[ax j]? := fun lo hi' h1 h2 => fr_ix hi h1 hF.2 [0, 41, 42, 43, 11, 12, 13, 14, 15, 16, 17] (by rfl) (by decide) h2
  have np0 : X10Pr dC dI G ax fa t.heap := ⟨zi0_13, hP1 0 _ rfl⟩
  have np4 : X10P1 dC dI G ax N B t.heap := ⟨zn11_2, zf12, zf13, zf14, zf15, zf16, zf17, p4j0, p4j1, p4j2, hP1 4 _ rfl, hP1 5 _ rfl, hP1 6 _ rfl, hP1 7 _ rfl, hP1 8 _ rfl, hP1 9 _ rfl, hP1 10 _ rfl⟩
  have np10 : X10P5 dC dI G ax t.heap := ⟨u0, u1, u2, hP1 1 _ rfl, hP1 2 _ rfl, hP1 3 _ rfl⟩
  exact ⟨⟨r, (), ho, trivial, ⟨np0, p1.kept (FR 1 2 (by decide) (by decide)), p2.kept (FR 2 4 (by decide) (by decide)), p3.kept (FR 4 11 (by decide) (by decide)), np4, p5.kept (FR 18 25 (by decide) (by decide)), p6.kept (FR 25 26 (by decide) (by decide)), p7.kept (FR 26 33 (by decide) (by decide)), p8.kept (FR 33 40 (by decide) (by decide)), p9.kept (FR 40 41 (by decide) (by decide)), np10, p11.kept (FR 44 68 (by decide) (by decide)), p12.kept (FR 68 69 (by decide) (by decide)), p13.kept (FR 69 74 (by decide) (by decide)), p14.kept (FR 74 77 (by decide) (by decide)), p15.kept (FR 77 102 (by decide) (by decide)), p16.kept (FR 102 112 (by decide) (by decide)), hX⟩⟩, hF.wide (ad_ix [0, 41, 42, 43, 11, 12, 13, 14, 15, 16, 17] (by rfl) (by decide))⟩

set_option maxHeartbeats 1000000 in
set_option maxRecDepth 100000 in
theorem k_X10_depth (l : Launch) (dC : Nat → ClassId) (dI : Nat → Nat → Nat) (G : Nat → ClassId) (sz : Nat) (ax : Nat → Nat) (hi : adInj 129 ax) (T : Nat) (Y : Nat → Int32) (fa : Int32) (N : Nat) (B : Nat) (N1 : Nat) (B1 : Nat) (N2 : Nat) (B2 : Nat) (K : Nat → Int32) (S : Nat) (M : Nat) (E : Nat → Int32) (Z : Nat → Int32) (i : Int32) (d : Int32) (what : Int32) : Met l yX10_depth (Cond.code yX10_depth cX10_depth 4 (some .long) :: GT) ({ frames := 5, cells := 0, slots := 0, locals := 112 } : Room) (PcI [.ref (ax 0), .int i, .int d, .int what] dC dI G (X10I dC dI G ax T Y fa N B N1 B1 N2 B2 K S M E Z) sz) (va_Ql (fun (r : Int64) (_ : Unit) => True) (fun _ t => X10I dC dI G ax T Y fa N B N1 B1 N2 B2 K S M E Z t.heap) (adX 0 112 ax sz)) 0 0 (adX 0 112 ax sz) := by
  refine Met.pick (fun a st hp => ?_)
  obtain ⟨e0, hsz, hI, hK⟩ := hp
  subst hsz
  have hI0 := hI
  unfold X10I at hI
  obtain ⟨p0, p1, p2, p3, p4, p5, p6, p7, p8, p9, p10, p11, p12, p13, p14, p15, p16, hX⟩ := hI
  unfold X10Pr at p0
  obtain ⟨zi0_13, q0⟩ := p0
  unfold X10P1 at p4
  obtain ⟨zn11_2, zf12, zf13, zf14, zf15, zf16, zf17, p4j0, p4j1, p4j2, q11, q12, q13, q14, q15, q16, q17⟩ := p4
  unfold X10P5 at p10
  obtain ⟨zl41_0, zf42, zf43, q41, q42, q43⟩ := p10
  refine ⟨_, _, _, c_X10_depth l dC dI G _ (ax 0) (ax 1) (ax 11) (ax 18) (ax 25) (ax 40) (ax 41) (ax 44) (ax 68) (ax 69) (ax 74) (ax 77) (ax 102) (ax 42) (ax 43) (ax 12) (ax 13) (ax 14) (ax 15) (ax 16) (ax 17) N B zn11_2 fa zi0_13 i d what zl41_0 zf12 zf13 zf14 zf15 zf16 zf17 zf42 zf43 (by assumption) (by assumption) (by assumption), ⟨e0, rfl, (vpc q0 (vpc q41 (vpc q42 (vpc q43 (vpc q11 (vpc q12 (vpc q13 (vpc q14 (vpc q15 (vpc q16 (vpc q17 va_nilP))))))))))), hK, vD_ix hi [0, 41, 42, 43, 11, 12, 13, 14, 15, 16, 17] (by rfl) (by decide) (by decide)⟩, ad_ix [0, 41, 42, 43, 11, 12, 13, 14, 15, 16, 17] (by rfl) (by decide), fun o t hq => ?_⟩
  obtain ⟨⟨r, ⟨u0, u1, u2⟩, ho, ⟨hr, hu⟩, hP1, -⟩, hF⟩ := hq
  have FR : ∀ lo hi' : Nat, hi' ≤ 129 → ([0, 41, 42, 43, 11, 12, 13, 14, 15, 16, 17] : List Nat).all (fun x => decide (x < lo) || decide (hi' ≤ x)) = true → ∀ j : Nat, lo ≤ j → j < hi' → ax j < st.heap.size → t.heap[ax j]? = st.heap[ax j]? := fun lo hi' h1 h2 => fr_ix hi h1 hF.2 [0, 41, 42, 43, 11, 12, 13, 14, 15, 16, 17] (by rfl) (by decide) h2
  have np0 : X10Pr dC dI G ax fa t.heap := ⟨zi0_13, hP1 0 _ rfl⟩
  have np4 : X10P1 dC dI G ax N B t.heap := ⟨zn11_2, zf12, zf13, zf14, zf15, zf16, zf17, p4j0, p4j1, p4j2, hP1 4 _ rfl, hP1 5 _ rfl, hP1 6 _ rfl, hP1 7 _ rfl, hP1 8 _ rfl, hP1 9 _ rfl, hP1 10 _ rfl⟩
  have np10 : X10P5 dC dI G ax t.heap := ⟨u0, u1, u2, hP1 1 _ rfl, hP1 2 _ rfl, hP1 3 _ rfl⟩
  exact ⟨⟨r, (), ho, trivial, ⟨np0, p1.kept (FR 1 2 (by decide) (by decide)), p2.kept (FR 2 4 (by decide) (by decide)), p3.kept (FR 4 11 (by decide) (by decide)), np4, p5.kept (FR 18 25 (by decide) (by decide)), p6.kept (FR 25 26 (by decide) (by decide)), p7.kept (FR 26 33 (by decide) (by decide)), p8.kept (FR 33 40 (by decide) (by decide)), p9.kept (FR 40 41 (by decide) (by decide)), np10, p11.kept (FR 44 68 (by decide) (by decide)), p12.kept (FR 68 69 (by decide) (by decide)), p13.kept (FR 69 74 (by decide) (by decide)), p14.kept (FR 74 77 (by decide) (by decide)), p15.kept (FR 77 102 (by decide) (by decide)), p16.kept (FR 102 112 (by decide) (by decide)), hX⟩⟩, hF.wide (ad_ix [0, 41, 42, 43, 11, 12, 13, 14, 15, 16, 17] (by rfl) (by decide))⟩

set_option maxHeartbeats 1000000 in
set_option maxRecDepth 100000 in
theorem k_X10_best (l : Launch) (dC : Nat → ClassId) (dI : Nat → Nat → Nat) (G : Nat → ClassId) (sz : Nat) (ax : Nat → Nat) (hi : adInj 129 ax) (T : Nat) (Y : Nat → Int32) (fa : Int32) (N : Nat) (B : Nat) (N1 : Nat) (B1 : Nat) (N2 : Nat) (B2 : Nat) (K : Nat → Int32) (S : Nat) (M : Nat) (E : Nat → Int32) (Z : Nat → Int32) (what : Int32) : Met l yX10_best (Cond.code yX10_best cX10_best 2 (some .long) :: GT) ({ frames := 5, cells := 0, slots := 0, locals := 116 } : Room) (PcI [.ref (ax 0), .int what] dC dI G (X10I dC dI G ax T Y fa N B N1 B1 N2 B2 K S M E Z) sz) (va_Ql (fun (r : Int64) (_ : Unit) => True) (fun _ t => X10I dC dI G ax T Y fa N B N1 B1 N2 B2 K S M E Z t.heap) (adX 0 112 ax sz)) 0 0 (adX 0 112 ax sz) := by
  refine Met.pick (fun a st hp => ?_)
  obtain ⟨e0, hsz, hI, hK⟩ := hp
  subst hsz
  have hI0 := hI
  unfold X10I at hI
  obtain ⟨p0, p1, p2, p3, p4, p5, p6, p7, p8, p9, p10, p11, p12, p13, p14, p15, p16, hX⟩ := hI
  unfold X10Pr at p0
  obtain ⟨zi0_13, q0⟩ := p0
  unfold X10P1 at p4
  obtain ⟨zn11_2, zf12, zf13, zf14, zf15, zf16, zf17, p4j0, p4j1, p4j2, q11, q12, q13, q14, q15, q16, q17⟩ := p4
  unfold X10P6 at p11
  obtain ⟨zl44_0, zF47, zF58, q44, q45, q46, q47, q58⟩ := p11
  refine ⟨_, _, _, c_X10_best l dC dI G _ (ax 0) (ax 1) (ax 11) (ax 18) (ax 25) (ax 40) (ax 41) (ax 44) (ax 68) (ax 69) (ax 74) (ax 77) (ax 102) (ax 45) (ax 46) (ax 12) (ax 13) (ax 14) (ax 15) (ax 16) (ax 17) N B zn11_2 fa zi0_13 what zl44_0 zf12 zf13 zf15 zf16 zf17 (fun iq => ax (47 + iq)) (fun iq => ax (58 + iq)) zF47 zF58 (by assumption) (by assumption) (by assumption), ⟨e0, rfl, (va_P.app (vpc q0 (vpc q44 (vpc q45 (vpc q46 (vpc q11 (vpc q12 (vpc q13 (vpc q15 (vpc q16 (vpc q17 va_nilP)))))))))) (va_P.app q47 (va_P.app q58 va_nilP))), hK, vD_ix hi [0, 44, 45, 46, 11, 12, 13, 15, 16, 17, 47, 48, 49, 50, 51, 52, 53, 54, 55, 56, 57, 58, 59, 60, 61, 62, 63, 64, 65, 66, 67] (by rfl) (by decide) (by decide)⟩, ad_ix [0, 44, 45, 46, 11, 12, 13, 15, 16, 17, 47, 48, 49, 50, 51, 52, 53, 54, 55, 56, 57, 58, 59, 60, 61, 62, 63, 64, 65, 66, 67] (by rfl) (by decide), fun o t hq => ?_⟩
  obtain ⟨⟨r, ⟨u0, u1, u2⟩, ho, ⟨hr, hu⟩, hP1, -⟩, hF⟩ := hq
  have FR : ∀ lo hi' : Nat, hi' ≤ 129 → ([0, 44, 45, 46, 11, 12, 13, 15, 16, 17, 47, 48, 49, 50, 51, 52, 53, 54, 55, 56, 57, 58, 59, 60, 61, 62, 63, 64, 65, 66, 67] : List Nat).all (fun x => decide (x < lo) || decide (hi' ≤ x)) = true → ∀ j : Nat, lo ≤ j → j < hi' → ax j < st.heap.size → t.heap[ax j]? = st.heap[ax j]? := fun lo hi' h1 h2 => fr_ix hi h1 hF.2 [0, 44, 45, 46, 11, 12, 13, 15, 16, 17, 47, 48, 49, 50, 51, 52, 53, 54, 55, 56, 57, 58, 59, 60, 61, 62, 63, 64, 65, 66, 67] (by rfl) (by decide) h2
  have np0 : X10Pr dC dI G ax fa t.heap := ⟨zi0_13, hP1 0 _ rfl⟩
  have np4 : X10P1 dC dI G ax N B t.heap := ⟨zn11_2, zf12, zf13, zf14, zf15, zf16, zf17, p4j0, p4j1, p4j2, hP1 4 _ rfl, hP1 5 _ rfl, hP1 6 _ rfl, q14.kept (FR 14 15 (by decide) (by decide) 14 (by decide) (by decide) q14.lt), hP1 7 _ rfl, hP1 8 _ rfl, hP1 9 _ rfl⟩
  have np11 : X10P6 dC dI G ax t.heap := ⟨u0, u1, u2, hP1 1 _ rfl, hP1 2 _ rfl, hP1 3 _ rfl, vp_mid hP1, vp_mid2 hP1⟩
  exact ⟨⟨r, (), ho, trivial, ⟨np0, p1.kept (FR 1 2 (by decide) (by decide)), p2.kept (FR 2 4 (by decide) (by decide)), p3.kept (FR 4 11 (by decide) (by decide)), np4, p5.kept (FR 18 25 (by decide) (by decide)), p6.kept (FR 25 26 (by decide) (by decide)), p7.kept (FR 26 33 (by decide) (by decide)), p8.kept (FR 33 40 (by decide) (by decide)), p9.kept (FR 40 41 (by decide) (by decide)), p10.kept (FR 41 44 (by decide) (by decide)), np11, p12.kept (FR 68 69 (by decide) (by decide)), p13.kept (FR 69 74 (by decide) (by decide)), p14.kept (FR 74 77 (by decide) (by decide)), p15.kept (FR 77 102 (by decide) (by decide)), p16.kept (FR 102 112 (by decide) (by decide)), hX⟩⟩, hF.wide (ad_ix [0, 44, 45, 46, 11, 12, 13, 15, 16, 17, 47, 48, 49, 50, 51, 52, 53, 54, 55, 56, 57, 58, 59, 60, 61, 62, 63, 64, 65, 66, 67] (by rfl) (by decide))⟩

set_option maxHeartbeats 1000000 in
set_option maxRecDepth 100000 in
theorem k_X10_next (l : Launch) (dC : Nat → ClassId) (dI : Nat → Nat → Nat) (G : Nat → ClassId) (sz : Nat) (ax : Nat → Nat) (hi : adInj 129 ax) (T : Nat) (Y : Nat → Int32) (fa : Int32) (N : Nat) (B : Nat) (N1 : Nat) (B1 : Nat) (N2 : Nat) (B2 : Nat) (K : Nat → Int32) (S : Nat) (M : Nat) (E : Nat → Int32) (Z : Nat → Int32) (i : Int32) (g : Int32) (d : Int32) : Met l yX10_next (Cond.code yX10_next cX10_next 5 (some .int) :: GT) ({ frames := 5, cells := 0, slots := 0, locals := 116 } : Room) (PcI [.ref (ax 0), .int i, .int g, .int d] dC dI G (X10I dC dI G ax T Y fa N B N1 B1 N2 B2 K S M E Z) sz) (va_Qi (fun (r : Int32) (_ : Unit) => True) (fun _ t => X10I dC dI G ax T Y fa N B N1 B1 N2 B2 K S M E Z t.heap) (adX 0 112 ax sz)) 0 0 (adX 0 112 ax sz) := by
  refine Met.pick (fun a st hp => ?_)
  obtain ⟨e0, hsz, hI, hK⟩ := hp
  subst hsz
  have hI0 := hI
  unfold X10I at hI
  obtain ⟨p0, p1, p2, p3, p4, p5, p6, p7, p8, p9, p10, p11, p12, p13, p14, p15, p16, hX⟩ := hI
  unfold X10Pr at p0
  obtain ⟨zi0_13, q0⟩ := p0
  unfold X10P1 at p4
  obtain ⟨zn11_2, zf12, zf13, zf14, zf15, zf16, zf17, p4j0, p4j1, p4j2, q11, q12, q13, q14, q15, q16, q17⟩ := p4
  unfold X10P6 at p11
  obtain ⟨zl44_0, zF47, zF58, q44, q45, q46, q47, q58⟩ := p11
  refine ⟨_, _, _, c_X10_next l dC dI G _ (ax 0) (ax 1) (ax 11) (ax 18) (ax 25) (ax 40) (ax 41) (ax 44) (ax 68) (ax 69) (ax 74) (ax 77) (ax 102) (ax 45) (ax 46) (ax 12) (ax 13) (ax 14) (ax 15) (ax 16) (ax 17) N B zn11_2 fa zi0_13 i g d zl44_0 zf12 zf13 zf15 zf16 zf17 (fun iq => ax (47 + iq)) (fun iq => ax (58 + iq)) zF47 zF58 (by assumption) (by assumption) (by assumption), ⟨e0, rfl, (va_P.app (vpc q0 (vpc q44 (vpc q45 (vpc q46 (vpc q11 (vpc q12 (vpc q13 (vpc q15 (vpc q16 (vpc q17 va_nilP)))))))))) (va_P.app q47 (va_P.app q58 va_nilP))), hK, vD_ix hi [0, 44, 45, 46, 11, 12, 13, 15, 16, 17, 47, 48, 49, 50, 51, 52, 53, 54, 55, 56, 57, 58, 59, 60, 61, 62, 63, 64, 65, 66, 67] (by rfl) (by decide) (by decide)⟩, ad_ix [0, 44, 45, 46, 11, 12, 13, 15, 16, 17, 47, 48, 49, 50, 51, 52, 53, 54, 55, 56, 57, 58, 59, 60, 61, 62, 63, 64, 65, 66, 67] (by rfl) (by decide), fun o t hq => ?_⟩
  obtain ⟨⟨r, ⟨u0, u1, u2⟩, ho, ⟨hr, hu⟩, hP1, -⟩, hF⟩ := hq
  have FR : ∀ lo hi' : Nat, hi' ≤ 129 → ([0, 44, 45, 46, 11, 12, 13, 15, 16, 17, 47, 48, 49, 50, 51, 52, 53, 54, 55, 56, 57, 58, 59, 60, 61, 62, 63, 64, 65, 66, 67] : List Nat).all (fun x => decide (x < lo) || decide (hi' ≤ x)) = true → ∀ j : Nat, lo ≤ j → j < hi' → ax j < st.heap.size → t.heap[ax j]? = st.heap[ax j]? := fun lo hi' h1 h2 => fr_ix hi h1 hF.2 [0, 44, 45, 46, 11, 12, 13, 15, 16, 17, 47, 48, 49, 50, 51, 52, 53, 54, 55, 56, 57, 58, 59, 60, 61, 62, 63, 64, 65, 66, 67] (by rfl) (by decide) h2
  have np0 : X10Pr dC dI G ax fa t.heap := ⟨zi0_13, hP1 0 _ rfl⟩
  have np4 : X10P1 dC dI G ax N B t.heap := ⟨zn11_2, zf12, zf13, zf14, zf15, zf16, zf17, p4j0, p4j1, p4j2, hP1 4 _ rfl, hP1 5 _ rfl, hP1 6 _ rfl, q14.kept (FR 14 15 (by decide) (by decide) 14 (by decide) (by decide) q14.lt), hP1 7 _ rfl, hP1 8 _ rfl, hP1 9 _ rfl⟩
  have np11 : X10P6 dC dI G ax t.heap := ⟨u0, u1, u2, hP1 1 _ rfl, hP1 2 _ rfl, hP1 3 _ rfl, vp_mid hP1, vp_mid2 hP1⟩
  exact ⟨⟨r, (), ho, trivial, ⟨np0, p1.kept (FR 1 2 (by decide) (by decide)), p2.kept (FR 2 4 (by decide) (by decide)), p3.kept (FR 4 11 (by decide) (by decide)), np4, p5.kept (FR 18 25 (by decide) (by decide)), p6.kept (FR 25 26 (by decide) (by decide)), p7.kept (FR 26 33 (by decide) (by decide)), p8.kept (FR 33 40 (by decide) (by decide)), p9.kept (FR 40 41 (by decide) (by decide)), p10.kept (FR 41 44 (by decide) (by decide)), np11, p12.kept (FR 68 69 (by decide) (by decide)), p13.kept (FR 69 74 (by decide) (by decide)), p14.kept (FR 74 77 (by decide) (by decide)), p15.kept (FR 77 102 (by decide) (by decide)), p16.kept (FR 102 112 (by decide) (by decide)), hX⟩⟩, hF.wide (ad_ix [0, 44, 45, 46, 11, 12, 13, 15, 16, 17, 47, 48, 49, 50, 51, 52, 53, 54, 55, 56, 57, 58, 59, 60, 61, 62, 63, 64, 65, 66, 67] (by rfl) (by decide))⟩

set_option maxHeartbeats 1000000 in
set_option maxRecDepth 100000 in
theorem k_X10_without (l : Launch) (dC : Nat → ClassId) (dI : Nat → Nat → Nat) (G : Nat → ClassId) (sz : Nat) (ax : Nat → Nat) (hi : adInj 129 ax) (T : Nat) (Y : Nat → Int32) (fa : Int32) (N : Nat) (B : Nat) (N1 : Nat) (B1 : Nat) (N2 : Nat) (B2 : Nat) (K : Nat → Int32) (S : Nat) (M : Nat) (E : Nat → Int32) (Z : Nat → Int32) (i : Int32) (what : Int32) : Met l yX10_without (Cond.code yX10_without cX10_without 3 (some .long) :: GT) ({ frames := 5, cells := 0, slots := 0, locals := 116 } : Room) (PcI [.ref (ax 0), .int i, .int what] dC dI G (X10I dC dI G ax T Y fa N B N1 B1 N2 B2 K S M E Z) sz) (va_Ql (fun (r : Int64) (_ : Unit) => True) (fun _ t => X10I dC dI G ax T Y fa N B N1 B1 N2 B2 K S M E Z t.heap) (adX 0 112 ax sz)) 0 0 (adX 0 112 ax sz) := by
  refine Met.pick (fun a st hp => ?_)
  obtain ⟨e0, hsz, hI, hK⟩ := hp
  subst hsz
  have hI0 := hI
  unfold X10I at hI
  obtain ⟨p0, p1, p2, p3, p4, p5, p6, p7, p8, p9, p10, p11, p12, p13, p14, p15, p16, hX⟩ := hI
  unfold X10Pr at p0
  obtain ⟨zi0_13, q0⟩ := p0
  unfold X10P1 at p4
  obtain ⟨zn11_2, zf12, zf13, zf14, zf15, zf16, zf17, p4j0, p4j1, p4j2, q11, q12, q13, q14, q15, q16, q17⟩ := p4
  unfold X10P6 at p11
  obtain ⟨zl44_0, zF47, zF58, q44, q45, q46, q47, q58⟩ := p11
  refine ⟨_, _, _, c_X10_without l dC dI G _ (ax 0) (ax 1) (ax 11) (ax 18) (ax 25) (ax 40) (ax 41) (ax 44) (ax 68) (ax 69) (ax 74) (ax 77) (ax 102) (ax 45) (ax 46) (ax 12) (ax 13) (ax 14) (ax 15) (ax 16) (ax 17) N B zn11_2 fa zi0_13 i what zl44_0 zf12 zf13 zf15 zf16 zf17 (fun iq => ax (47 + iq)) (fun iq => ax (58 + iq)) zF47 zF58 (by assumption) (by assumption) (by assumption), ⟨e0, rfl, (va_P.app (vpc q0 (vpc q44 (vpc q45 (vpc q46 (vpc q11 (vpc q12 (vpc q13 (vpc q15 (vpc q16 (vpc q17 va_nilP)))))))))) (va_P.app q47 (va_P.app q58 va_nilP))), hK, vD_ix hi [0, 44, 45, 46, 11, 12, 13, 15, 16, 17, 47, 48, 49, 50, 51, 52, 53, 54, 55, 56, 57, 58, 59, 60, 61, 62, 63, 64, 65, 66, 67] (by rfl) (by decide) (by decide)⟩, ad_ix [0, 44, 45, 46, 11, 12, 13, 15, 16, 17, 47, 48, 49, 50, 51, 52, 53, 54, 55, 56, 57, 58, 59, 60, 61, 62, 63, 64, 65, 66, 67] (by rfl) (by decide), fun o t hq => ?_⟩
  obtain ⟨⟨r, ⟨u0, u1, u2⟩, ho, ⟨hr, hu⟩, hP1, -⟩, hF⟩ := hq
  have FR : ∀ lo hi' : Nat, hi' ≤ 129 → ([0, 44, 45, 46, 11, 12, 13, 15, 16, 17, 47, 48, 49, 50, 51, 52, 53, 54, 55, 56, 57, 58, 59, 60, 61, 62, 63, 64, 65, 66, 67] : List Nat).all (fun x => decide (x < lo) || decide (hi' ≤ x)) = true → ∀ j : Nat, lo ≤ j → j < hi' → ax j < st.heap.size → t.heap[ax j]? = st.heap[ax j]? := fun lo hi' h1 h2 => fr_ix hi h1 hF.2 [0, 44, 45, 46, 11, 12, 13, 15, 16, 17, 47, 48, 49, 50, 51, 52, 53, 54, 55, 56, 57, 58, 59, 60, 61, 62, 63, 64, 65, 66, 67] (by rfl) (by decide) h2
  have np0 : X10Pr dC dI G ax fa t.heap := ⟨zi0_13, hP1 0 _ rfl⟩
  have np4 : X10P1 dC dI G ax N B t.heap := ⟨zn11_2, zf12, zf13, zf14, zf15, zf16, zf17, p4j0, p4j1, p4j2, hP1 4 _ rfl, hP1 5 _ rfl, hP1 6 _ rfl, q14.kept (FR 14 15 (by decide) (by decide) 14 (by decide) (by decide) q14.lt), hP1 7 _ rfl, hP1 8 _ rfl, hP1 9 _ rfl⟩
  have np11 : X10P6 dC dI G ax t.heap := ⟨u0, u1, u2, hP1 1 _ rfl, hP1 2 _ rfl, hP1 3 _ rfl, vp_mid hP1, vp_mid2 hP1⟩
  exact ⟨⟨r, (), ho, trivial, ⟨np0, p1.kept (FR 1 2 (by decide) (by decide)), p2.kept (FR 2 4 (by decide) (by decide)), p3.kept (FR 4 11 (by decide) (by decide)), np4, p5.kept (FR 18 25 (by decide) (by decide)), p6.kept (FR 25 26 (by decide) (by decide)), p7.kept (FR 26 33 (by decide) (by decide)), p8.kept (FR 33 40 (by decide) (by decide)), p9.kept (FR 40 41 (by decide) (by decide)), p10.kept (FR 41 44 (by decide) (by decide)), np11, p12.kept (FR 68 69 (by decide) (by decide)), p13.kept (FR 69 74 (by decide) (by decide)), p14.kept (FR 74 77 (by decide) (by decide)), p15.kept (FR 77 102 (by decide) (by decide)), p16.kept (FR 102 112 (by decide) (by decide)), hX⟩⟩, hF.wide (ad_ix [0, 44, 45, 46, 11, 12, 13, 15, 16, 17, 47, 48, 49, 50, 51, 52, 53, 54, 55, 56, 57, 58, 59, 60, 61, 62, 63, 64, 65, 66, 67] (by rfl) (by decide))⟩

set_option maxHeartbeats 1000000 in
set_option maxRecDepth 100000 in
theorem k_X10_quiet (l : Launch) (dC : Nat → ClassId) (dI : Nat → Nat → Nat) (G : Nat → ClassId) (sz : Nat) (ax : Nat → Nat) (hi : adInj 129 ax) (T : Nat) (Y : Nat → Int32) (fa : Int32) (N : Nat) (B : Nat) (N1 : Nat) (B1 : Nat) (N2 : Nat) (B2 : Nat) (K : Nat → Int32) (S : Nat) (M : Nat) (E : Nat → Int32) (Z : Nat → Int32) (mm : Int32) (what : Int32) : Met l yX10_quiet (Cond.code yX10_quiet cX10_quiet 10 (some .long) :: GT) ({ frames := 5, cells := 0, slots := 0, locals := 121 } : Room) (PcI [.ref (ax 0), .int mm, .int what] dC dI G (X10I dC dI G ax T Y fa N B N1 B1 N2 B2 K S M E Z) sz) (va_Ql (fun (r : Int64) (_ : Unit) => True) (fun _ t => X10I dC dI G ax T Y fa N B N1 B1 N2 B2 K S M E Z t.heap) (adX 0 112 ax sz)) 0 0 (adX 0 112 ax sz) := by
  refine Met.pick (fun a st hp => ?_)
  obtain ⟨e0, hsz, hI, hK⟩ := hp
  subst hsz
  have hI0 := hI
  unfold X10I at hI
  obtain ⟨p0, p1, p2, p3, p4, p5, p6, p7, p8, p9, p10, p11, p12, p13, p14, p15, p16, hX⟩ := hI
  unfold X10Pr at p0
  obtain ⟨zi0_13, q0⟩ := p0
  unfold X10P1 at p4
  obtain ⟨zn11_2, zf12, zf13, zf14, zf15, zf16, zf17, p4j0, p4j1, p4j2, q11, q12, q13, q14, q15, q16, q17⟩ := p4
  unfold X10P2 at p5
  obtain ⟨zn18_0, zn18_1, zn18_2, zf19, zf20, zf21, zf22, zf23, zf24, p5j0, p5j1, p5j2, q18, q19, q20, q21, q22, q23, q24⟩ := p5
  unfold X10P5 at p10
  obtain ⟨zl41_0, zf42, zf43, q41, q42, q43⟩ := p10
  refine ⟨_, _, _, c_X10_quiet l dC dI G _ (ax 0) (ax 1) (ax 11) (ax 18) (ax 25) (ax 40) (ax 41) (ax 44) (ax 68) (ax 69) (ax 74) (ax 77) (ax 102) (ax 42) (ax 43) (ax 12) (ax 13) (ax 14) (ax 15) (ax 16) (ax 17) N B zn11_2 (ax 19) (ax 20) (ax 21) (ax 22) (ax 23) (ax 24) zn18_0 zn18_1 zn18_2 fa zi0_13 mm what zl41_0 zf12 zf13 zf14 zf15 zf16 zf17 zf19 zf20 zf21 zf22 zf23 zf24 zf42 zf43 (by assumption) (by assumption) (by assumption) (by assumption) (by assumption) (by assumption), ⟨e0, rfl, (vpc q0 (vpc q18 (vpc q19 (vpc q20 (vpc q21 (vpc q22 (vpc q23 (vpc q24 (vpc q41 (vpc q42 (vpc q43 (vpc q11 (vpc q12 (vpc q13 (vpc q14 (vpc q15 (vpc q16 (vpc q17 va_nilP)))))))))))))))))), hK, vD_ix hi [0, 18, 19, 20, 21, 22, 23, 24, 41, 42, 43, 11, 12, 13, 14, 15, 16, 17] (by rfl) (by decide) (by decide)⟩, ad_ix [0, 18, 19, 20, 21, 22, 23, 24, 41, 42, 43, 11, 12, 13, 14, 15, 16, 17] (by rfl) (by decide), fun o t hq => ?_⟩
  obtain ⟨⟨r, ⟨u0, u1, u2, u3, u4, u5, u6, u7, u8, u9, v1, v2⟩, ho, ⟨hr, hu⟩, hP1, -⟩, hF⟩ := hq
  have FR : ∀ lo hi' : Nat, hi' ≤ 129 → ([0, 18, 19, 20, 21, 22, 23, 24, 41, 42, 43, 11, 12, 13, 14, 15, 16, 17] : List Nat).all (fun x => decide (x < lo) || decide (hi' ≤ x)) = true → ∀ j : Nat, lo ≤ j → j < hi' → ax j < st.heap.size → t.heap[ax j]? = st.heap[ax j]? := fun lo hi' h1 h2 => fr_ix hi h1 hF.2 [0, 18, 19, 20, 21, 22, 23, 24, 41, 42, 43, 11, 12, 13, 14, 15, 16, 17] (by rfl) (by decide) h2
  have np0 : X10Pr dC dI G ax fa t.heap := ⟨zi0_13, hP1 0 _ rfl⟩
  have np4 : X10P1 dC dI G ax N B t.heap := ⟨zn11_2, zf12, zf13, zf14, zf15, zf16, zf17, p4j0, p4j1, p4j2, hP1 11 _ rfl, hP1 12 _ rfl, hP1 13 _ rfl, hP1 14 _ rfl, hP1 15 _ rfl, hP1 16 _ rfl, hP1 17 _ rfl⟩
  have np5 : X10P2 dC dI G ax t.heap := ⟨u0, u1, u2, u3, u4, u5, u6, u7, u8, (by first | omega | exact hu | exact hu.1 | exact hu.1.1 | exact hu.1.2 | exact hu.2 | exact fd_nn (by assumption) | (split at hu <;> omega) | (split <;> omega) | exact E_inv (by assumption)), (by first | omega | exact hu | exact hu.1 | exact hu.1.1 | exact hu.1.2 | exact hu.2 | exact fd_nn (by assumption) | (split at hu <;> omega) | (split <;> omega) | exact E_inv (by assumption)), (by first | omega | exact hu | exact hu.1 | exact hu.1.1 | exact hu.1.2 | exact hu.2 | exact fd_nn (by assumption) | (split at hu <;> omega) | (split <;> omega) | exact E_inv (by assumption)), hP1 1 _ rfl, hP1 2 _ rfl, hP1 3 _ rfl, hP1 4 _ rfl, hP1 5 _ rfl, hP1 6 _ rfl, hP1 7 _ rfl⟩
  have np10 : X10P5 dC dI G ax t.heap := ⟨u9, v1, v2, hP1 8 _ rfl, hP1 9 _ rfl, hP1 10 _ rfl⟩
  exact ⟨⟨r, (), ho, trivial, ⟨np0, p1.kept (FR 1 2 (by decide) (by decide)), p2.kept (FR 2 4 (by decide) (by decide)), p3.kept (FR 4 11 (by decide) (by decide)), np4, np5, p6.kept (FR 25 26 (by decide) (by decide)), p7.kept (FR 26 33 (by decide) (by decide)), p8.kept (FR 33 40 (by decide) (by decide)), p9.kept (FR 40 41 (by decide) (by decide)), np10, p11.kept (FR 44 68 (by decide) (by decide)), p12.kept (FR 68 69 (by decide) (by decide)), p13.kept (FR 69 74 (by decide) (by decide)), p14.kept (FR 74 77 (by decide) (by decide)), p15.kept (FR 77 102 (by decide) (by decide)), p16.kept (FR 102 112 (by decide) (by decide)), hX⟩⟩, hF.wide (ad_ix [0, 18, 19, 20, 21, 22, 23, 24, 41, 42, 43, 11, 12, 13, 14, 15, 16, 17] (by rfl) (by decide))⟩

set_option maxHeartbeats 1000000 in
set_option maxRecDepth 100000 in
theorem k_X10_drop (l : Launch) (dC : Nat → ClassId) (dI : Nat → Nat → Nat) (G : Nat → ClassId) (sz : Nat) (ax : Nat → Nat) (hi : adInj 129 ax) (T : Nat) (Y : Nat → Int32) (fa : Int32) (N : Nat) (B : Nat) (N1 : Nat) (B1 : Nat) (N2 : Nat) (B2 : Nat) (K : Nat → Int32) (S : Nat) (M : Nat) (E : Nat → Int32) (Z : Nat → Int32) (what : Int32) : Met l yX10_drop (Cond.code yX10_drop cX10_drop 8 (some .long) :: GT) ({ frames := 5, cells := 0, slots := 0, locals := 112 } : Room) (PcI [.ref (ax 0), .int what] dC dI G (X10I dC dI G ax T Y fa N B N1 B1 N2 B2 K S M E Z) sz) (va_Ql (fun (r : Int64) (_ : Unit) => True) (fun _ t => X10I dC dI G ax T Y fa N B N1 B1 N2 B2 K S M E Z t.heap) (adX 0 112 ax sz)) 0 0 (adX 0 112 ax sz) := by
  refine Met.pick (fun a st hp => ?_)
  obtain ⟨e0, hsz, hI, hK⟩ := hp
  subst hsz
  have hI0 := hI
  unfold X10I at hI
  obtain ⟨p0, p1, p2, p3, p4, p5, p6, p7, p8, p9, p10, p11, p12, p13, p14, p15, p16, hX⟩ := hI
  unfold X10Pr at p0
  obtain ⟨zi0_13, q0⟩ := p0
  unfold X10P1 at p4
  obtain ⟨zn11_2, zf12, zf13, zf14, zf15, zf16, zf17, p4j0, p4j1, p4j2, q11, q12, q13, q14, q15, q16, q17⟩ := p4
  unfold X10P5 at p10
  obtain ⟨zl41_0, zf42, zf43, q41, q42, q43⟩ := p10
  refine ⟨_, _, _, c_X10_drop l dC dI G _ (ax 0) (ax 1) (ax 11) (ax 18) (ax 25) (ax 40) (ax 41) (ax 44) (ax 68) (ax 69) (ax 74) (ax 77) (ax 102) (ax 42) (ax 43) (ax 12) (ax 13) (ax 14) (ax 15) (ax 16) (ax 17) N B zn11_2 fa zi0_13 what zl41_0 zf12 zf13 zf14 zf15 zf16 zf17 zf42 zf43 (by assumption) (by assumption) (by assumption), ⟨e0, rfl, (vpc q0 (vpc q41 (vpc q42 (vpc q43 (vpc q11 (vpc q12 (vpc q13 (vpc q14 (vpc q15 (vpc q16 (vpc q17 va_nilP))))))))))), hK, vD_ix hi [0, 41, 42, 43, 11, 12, 13, 14, 15, 16, 17] (by rfl) (by decide) (by decide)⟩, ad_ix [0, 41, 42, 43, 11, 12, 13, 14, 15, 16, 17] (by rfl) (by decide), fun o t hq => ?_⟩
  obtain ⟨⟨r, ⟨u0, u1, u2⟩, ho, ⟨hr, hu⟩, hP1, -⟩, hF⟩ := hq
  have FR : ∀ lo hi' : Nat, hi' ≤ 129 → ([0, 41, 42, 43, 11, 12, 13, 14, 15, 16, 17] : List Nat).all (fun x => decide (x < lo) || decide (hi' ≤ x)) = true → ∀ j : Nat, lo ≤ j → j < hi' → ax j < st.heap.size → t.heap[ax j]? = st.heap[ax j]? := fun lo hi' h1 h2 => fr_ix hi h1 hF.2 [0, 41, 42, 43, 11, 12, 13, 14, 15, 16, 17] (by rfl) (by decide) h2
  have np0 : X10Pr dC dI G ax fa t.heap := ⟨zi0_13, hP1 0 _ rfl⟩
  have np4 : X10P1 dC dI G ax N B t.heap := ⟨zn11_2, zf12, zf13, zf14, zf15, zf16, zf17, p4j0, p4j1, p4j2, hP1 4 _ rfl, hP1 5 _ rfl, hP1 6 _ rfl, hP1 7 _ rfl, hP1 8 _ rfl, hP1 9 _ rfl, hP1 10 _ rfl⟩
  have np10 : X10P5 dC dI G ax t.heap := ⟨u0, u1, u2, hP1 1 _ rfl, hP1 2 _ rfl, hP1 3 _ rfl⟩
  exact ⟨⟨r, (), ho, trivial, ⟨np0, p1.kept (FR 1 2 (by decide) (by decide)), p2.kept (FR 2 4 (by decide) (by decide)), p3.kept (FR 4 11 (by decide) (by decide)), np4, p5.kept (FR 18 25 (by decide) (by decide)), p6.kept (FR 25 26 (by decide) (by decide)), p7.kept (FR 26 33 (by decide) (by decide)), p8.kept (FR 33 40 (by decide) (by decide)), p9.kept (FR 40 41 (by decide) (by decide)), np10, p11.kept (FR 44 68 (by decide) (by decide)), p12.kept (FR 68 69 (by decide) (by decide)), p13.kept (FR 69 74 (by decide) (by decide)), p14.kept (FR 74 77 (by decide) (by decide)), p15.kept (FR 77 102 (by decide) (by decide)), p16.kept (FR 102 112 (by decide) (by decide)), hX⟩⟩, hF.wide (ad_ix [0, 41, 42, 43, 11, 12, 13, 14, 15, 16, 17] (by rfl) (by decide))⟩

set_option maxHeartbeats 1000000 in
set_option maxRecDepth 100000 in
theorem k_X10_swap (l : Launch) (dC : Nat → ClassId) (dI : Nat → Nat → Nat) (G : Nat → ClassId) (sz : Nat) (ax : Nat → Nat) (hi : adInj 129 ax) (T : Nat) (Y : Nat → Int32) (fa : Int32) (N : Nat) (B : Nat) (N1 : Nat) (B1 : Nat) (N2 : Nat) (B2 : Nat) (K : Nat → Int32) (S : Nat) (M : Nat) (E : Nat → Int32) (Z : Nat → Int32) (what : Int32) : Met l yX10_swap (Cond.code yX10_swap cX10_swap 9 (some .long) :: GT) ({ frames := 5, cells := 0, slots := 0, locals := 121 } : Room) (PcI [.ref (ax 0), .int what] dC dI G (X10I dC dI G ax T Y fa N B N1 B1 N2 B2 K S M E Z) sz) (va_Ql (fun (r : Int64) (_ : Unit) => True) (fun _ t => X10I dC dI G ax T Y fa N B N1 B1 N2 B2 K S M E Z t.heap) (adX 0 112 ax sz)) 0 0 (adX 0 112 ax sz) := by
  refine Met.pick (fun a st hp => ?_)
  obtain ⟨e0, hsz, hI, hK⟩ := hp
  subst hsz
  have hI0 := hI
  unfold X10I at hI
  obtain ⟨p0, p1, p2, p3, p4, p5, p6, p7, p8, p9, p10, p11, p12, p13, p14, p15, p16, hX⟩ := hI
  unfold X10Pr at p0
  obtain ⟨zi0_13, q0⟩ := p0
  unfold X10P1 at p4
  obtain ⟨zn11_2, zf12, zf13, zf14, zf15, zf16, zf17, p4j0, p4j1, p4j2, q11, q12, q13, q14, q15, q16, q17⟩ := p4
  unfold X10P2 at p5
  obtain ⟨zn18_0, zn18_1, zn18_2, zf19, zf20, zf21, zf22, zf23, zf24, p5j0, p5j1, p5j2, q18, q19, q20, q21, q22, q23, q24⟩ := p5
  unfold X10P5 at p10
  obtain ⟨zl41_0, zf42, zf43, q41, q42, q43⟩ := p10
  refine ⟨_, _, _, c_X10_swap l dC dI G _ (ax 0) (ax 1) (ax 11) (ax 18) (ax 25) (ax 40) (ax 41) (ax 44) (ax 68) (ax 69) (ax 74) (ax 77) (ax 102) (ax 42) (ax 43) (ax 12) (ax 13) (ax 14) (ax 15) (ax 16) (ax 17) N B zn11_2 (ax 19) (ax 20) (ax 21) (ax 22) (ax 23) (ax 24) zn18_0 zn18_1 zn18_2 fa zi0_13 what zl41_0 zf12 zf13 zf14 zf15 zf16 zf17 zf19 zf20 zf21 zf22 zf23 zf24 zf42 zf43 (by assumption) (by assumption) (by assumption) (by assumption) (by assumption) (by assumption), ⟨e0, rfl, (vpc q0 (vpc q18 (vpc q19 (vpc q20 (vpc q21 (vpc q22 (vpc q23 (vpc q24 (vpc q41 (vpc q42 (vpc q43 (vpc q11 (vpc q12 (vpc q13 (vpc q14 (vpc q15 (vpc q16 (vpc q17 va_nilP)))))))))))))))))), hK, vD_ix hi [0, 18, 19, 20, 21, 22, 23, 24, 41, 42, 43, 11, 12, 13, 14, 15, 16, 17] (by rfl) (by decide) (by decide)⟩, ad_ix [0, 18, 19, 20, 21, 22, 23, 24, 41, 42, 43, 11, 12, 13, 14, 15, 16, 17] (by rfl) (by decide), fun o t hq => ?_⟩
  obtain ⟨⟨r, ⟨u0, u1, u2, u3, u4, u5, u6, u7, u8, u9, v1, v2⟩, ho, ⟨hr, hu⟩, hP1, -⟩, hF⟩ := hq
  have FR : ∀ lo hi' : Nat, hi' ≤ 129 → ([0, 18, 19, 20, 21, 22, 23, 24, 41, 42, 43, 11, 12, 13, 14, 15, 16, 17] : List Nat).all (fun x => decide (x < lo) || decide (hi' ≤ x)) = true → ∀ j : Nat, lo ≤ j → j < hi' → ax j < st.heap.size → t.heap[ax j]? = st.heap[ax j]? := fun lo hi' h1 h2 => fr_ix hi h1 hF.2 [0, 18, 19, 20, 21, 22, 23, 24, 41, 42, 43, 11, 12, 13, 14, 15, 16, 17] (by rfl) (by decide) h2
  have np0 : X10Pr dC dI G ax fa t.heap := ⟨zi0_13, hP1 0 _ rfl⟩
  have np4 : X10P1 dC dI G ax N B t.heap := ⟨zn11_2, zf12, zf13, zf14, zf15, zf16, zf17, p4j0, p4j1, p4j2, hP1 11 _ rfl, hP1 12 _ rfl, hP1 13 _ rfl, hP1 14 _ rfl, hP1 15 _ rfl, hP1 16 _ rfl, hP1 17 _ rfl⟩
  have np5 : X10P2 dC dI G ax t.heap := ⟨u0, u1, u2, u3, u4, u5, u6, u7, u8, (by first | omega | exact hu | exact hu.1 | exact hu.1.1 | exact hu.1.2 | exact hu.2 | exact fd_nn (by assumption) | (split at hu <;> omega) | (split <;> omega) | exact E_inv (by assumption)), (by first | omega | exact hu | exact hu.1 | exact hu.1.1 | exact hu.1.2 | exact hu.2 | exact fd_nn (by assumption) | (split at hu <;> omega) | (split <;> omega) | exact E_inv (by assumption)), (by first | omega | exact hu | exact hu.1 | exact hu.1.1 | exact hu.1.2 | exact hu.2 | exact fd_nn (by assumption) | (split at hu <;> omega) | (split <;> omega) | exact E_inv (by assumption)), hP1 1 _ rfl, hP1 2 _ rfl, hP1 3 _ rfl, hP1 4 _ rfl, hP1 5 _ rfl, hP1 6 _ rfl, hP1 7 _ rfl⟩
  have np10 : X10P5 dC dI G ax t.heap := ⟨u9, v1, v2, hP1 8 _ rfl, hP1 9 _ rfl, hP1 10 _ rfl⟩
  exact ⟨⟨r, (), ho, trivial, ⟨np0, p1.kept (FR 1 2 (by decide) (by decide)), p2.kept (FR 2 4 (by decide) (by decide)), p3.kept (FR 4 11 (by decide) (by decide)), np4, np5, p6.kept (FR 25 26 (by decide) (by decide)), p7.kept (FR 26 33 (by decide) (by decide)), p8.kept (FR 33 40 (by decide) (by decide)), p9.kept (FR 40 41 (by decide) (by decide)), np10, p11.kept (FR 44 68 (by decide) (by decide)), p12.kept (FR 68 69 (by decide) (by decide)), p13.kept (FR 69 74 (by decide) (by decide)), p14.kept (FR 74 77 (by decide) (by decide)), p15.kept (FR 77 102 (by decide) (by decide)), p16.kept (FR 102 112 (by decide) (by decide)), hX⟩⟩, hF.wide (ad_ix [0, 18, 19, 20, 21, 22, 23, 24, 41, 42, 43, 11, 12, 13, 14, 15, 16, 17] (by rfl) (by decide))⟩

set_option maxHeartbeats 1000000 in
set_option maxRecDepth 100000 in
theorem k_X10_carry (l : Launch) (dC : Nat → ClassId) (dI : Nat → Nat → Nat) (G : Nat → ClassId) (sz : Nat) (ax : Nat → Nat) (hi : adInj 129 ax) (T : Nat) (Y : Nat → Int32) (fa : Int32) (N : Nat) (B : Nat) (N1 : Nat) (B1 : Nat) (N2 : Nat) (B2 : Nat) (K : Nat → Int32) (S : Nat) (M : Nat) (E : Nat → Int32) (Z : Nat → Int32) (sd : Int32) (what : Int32) : Met l yX10_carry (Cond.code yX10_carry cX10_carry 3 (some .int) :: GT) ({ frames := 5, cells := 0, slots := 0, locals := 112 } : Room) (PcI [.ref (ax 0), .int sd, .int what] dC dI G (X10I dC dI G ax T Y fa N B N1 B1 N2 B2 K S M E Z) sz) (va_Qi (fun (r : Int32) (_ : Unit) => True) (fun _ t => X10I dC dI G ax T Y fa N B N1 B1 N2 B2 K S M E Z t.heap) (adX 0 112 ax sz)) 0 0 (adX 0 112 ax sz) := by
  refine Met.pick (fun a st hp => ?_)
  obtain ⟨e0, hsz, hI, hK⟩ := hp
  subst hsz
  have hI0 := hI
  unfold X10I at hI
  obtain ⟨p0, p1, p2, p3, p4, p5, p6, p7, p8, p9, p10, p11, p12, p13, p14, p15, p16, hX⟩ := hI
  unfold X10Pr at p0
  obtain ⟨zi0_13, q0⟩ := p0
  unfold X10P1 at p4
  obtain ⟨zn11_2, zf12, zf13, zf14, zf15, zf16, zf17, p4j0, p4j1, p4j2, q11, q12, q13, q14, q15, q16, q17⟩ := p4
  unfold X10P7 at p12
  obtain ⟨zi68_0, zi68_1, zi68_2, q68⟩ := p12
  refine ⟨_, _, _, c_X10_carry l dC dI G _ (ax 0) (ax 1) (ax 11) (ax 18) (ax 25) (ax 40) (ax 41) (ax 44) (ax 68) (ax 69) (ax 74) (ax 77) (ax 102) (ax 12) (ax 13) (ax 14) (ax 15) (ax 16) (ax 17) N B zn11_2 fa zi0_13 sd what zi68_0 zi68_1 zi68_2 zf12 zf13 zf14 zf15 zf16 zf17 (by assumption) (by assumption) (by assumption), ⟨e0, rfl, (vpc q0 (vpc q68 (vpc q11 (vpc q12 (vpc q13 (vpc q14 (vpc q15 (vpc q16 (vpc q17 va_nilP))))))))), hK, vD_ix hi [0, 68, 11, 12, 13, 14, 15, 16, 17] (by rfl) (by decide) (by decide)⟩, ad_ix [0, 68, 11, 12, 13, 14, 15, 16, 17] (by rfl) (by decide), fun o t hq => ?_⟩
  obtain ⟨⟨r, ⟨u0, u1, u2⟩, ho, ⟨hr, hu⟩, hP1, -⟩, hF⟩ := hq
  have FR : ∀ lo hi' : Nat, hi' ≤ 129 → ([0, 68, 11, 12, 13, 14, 15, 16, 17] : List Nat).all (fun x => decide (x < lo) || decide (hi' ≤ x)) = true → ∀ j : Nat, lo ≤ j → j < hi' → ax j < st.heap.size → t.heap[ax j]? = st.heap[ax j]? := fun lo hi' h1 h2 => fr_ix hi h1 hF.2 [0, 68, 11, 12, 13, 14, 15, 16, 17] (by rfl) (by decide) h2
  have np0 : X10Pr dC dI G ax fa t.heap := ⟨zi0_13, hP1 0 _ rfl⟩
  have np4 : X10P1 dC dI G ax N B t.heap := ⟨zn11_2, zf12, zf13, zf14, zf15, zf16, zf17, p4j0, p4j1, p4j2, hP1 2 _ rfl, hP1 3 _ rfl, hP1 4 _ rfl, hP1 5 _ rfl, hP1 6 _ rfl, hP1 7 _ rfl, hP1 8 _ rfl⟩
  have np12 : X10P7 dC dI G ax t.heap := ⟨u0, u1, u2, hP1 1 _ rfl⟩
  exact ⟨⟨r, (), ho, trivial, ⟨np0, p1.kept (FR 1 2 (by decide) (by decide)), p2.kept (FR 2 4 (by decide) (by decide)), p3.kept (FR 4 11 (by decide) (by decide)), np4, p5.kept (FR 18 25 (by decide) (by decide)), p6.kept (FR 25 26 (by decide) (by decide)), p7.kept (FR 26 33 (by decide) (by decide)), p8.kept (FR 33 40 (by decide) (by decide)), p9.kept (FR 40 41 (by decide) (by decide)), p10.kept (FR 41 44 (by decide) (by decide)), p11.kept (FR 44 68 (by decide) (by decide)), np12, p13.kept (FR 69 74 (by decide) (by decide)), p14.kept (FR 74 77 (by decide) (by decide)), p15.kept (FR 77 102 (by decide) (by decide)), p16.kept (FR 102 112 (by decide) (by decide)), hX⟩⟩, hF.wide (ad_ix [0, 68, 11, 12, 13, 14, 15, 16, 17] (by rfl) (by decide))⟩

set_option maxHeartbeats 1000000 in
set_option maxRecDepth 100000 in
theorem k_X10_learnE (l : Launch) (dC : Nat → ClassId) (dI : Nat → Nat → Nat) (G : Nat → ClassId) (sz : Nat) (ax : Nat → Nat) (hi : adInj 129 ax) (T : Nat) (Y : Nat → Int32) (fa : Int32) (N : Nat) (B : Nat) (N1 : Nat) (B1 : Nat) (N2 : Nat) (B2 : Nat) (K : Nat → Int32) (S : Nat) (M : Nat) (E : Nat → Int32) (Z : Nat → Int32) (i : Int32) (g : Int32) (k : Int32) (hm : Int32) : Met l yX10_learn (Cond.code yX10_learn cX10_learn 5 (some .int) :: GT) ({ frames := 2, cells := 0, slots := 0, locals := 44 } : Room) (PcI [.ref (ax 0), .int i, .int g, .int k, .int hm] dC dI G (X10I dC dI G ax T Y fa N B N1 B1 N2 B2 K S M E Z) sz) (va_Qi (fun (r : Int32) (_ : Unit) => r = if ((0 ≤ i.toInt ∧ i.toInt < ((N : Nat) : Int)) ∧ (g.toInt = -4 ∨ (0 ≤ g.toInt ∧ g.toInt < ((B : Nat) : Int))) ∧ (0 ≤ k.toInt ∧ k.toInt < ((B : Nat) : Int)) ∧ 0 ≤ hm.toInt ∧ hm.toInt ≤ 20) then (if S < 8 then nI (S + 1) else -3) else -1) (fun _ t => X10I dC dI G ax T Y fa N B N1 B1 N2 B2 K (if ((0 ≤ i.toInt ∧ i.toInt < ((N : Nat) : Int)) ∧ (g.toInt = -4 ∨ (0 ≤ g.toInt ∧ g.toInt < ((B : Nat) : Int))) ∧ (0 ≤ k.toInt ∧ k.toInt < ((B : Nat) : Int)) ∧ 0 ≤ hm.toInt ∧ hm.toInt ≤ 20) ∧ S < 8 then S + 1 else S) M E Z t.heap) (adX 0 112 ax sz)) 0 0 (adX 0 112 ax sz) := by
  refine Met.pick (fun a st hp => ?_)
  obtain ⟨e0, hsz, hI, hK⟩ := hp
  subst hsz
  have hI0 := hI
  unfold X10I at hI
  obtain ⟨p0, p1, p2, p3, p4, p5, p6, p7, p8, p9, p10, p11, p12, p13, p14, p15, p16, hX⟩ := hI
  unfold X10Pr at p0
  obtain ⟨zi0_13, q0⟩ := p0
  unfold X10P1 at p4
  obtain ⟨zn11_2, zf12, zf13, zf14, zf15, zf16, zf17, p4j0, p4j1, p4j2, q11, q12, q13, q14, q15, q16, q17⟩ := p4
  unfold X10P8 at p13
  obtain ⟨zf70, zf71, zf72, zf73, p13j0, q69, q70, q71, q72, q73⟩ := p13
  refine ⟨_, _, _, c_X10_learnE l dC dI G _ (ax 0) (ax 1) (ax 11) (ax 18) (ax 25) (ax 40) (ax 41) (ax 44) (ax 68) (ax 69) (ax 74) (ax 77) (ax 102) (ax 12) (ax 13) (ax 14) (ax 15) (ax 16) (ax 17) N B zn11_2 (ax 70) (ax 71) (ax 72) (ax 73) S fa zi0_13 i g k hm zf70 zf71 zf72 zf73 (by assumption) (by assumption) (by assumption) (by assumption), ⟨e0, rfl, (vpc q0 (vpc q11 (vpc q69 (vpc q70 (vpc q71 (vpc q72 (vpc q73 va_nilP))))))), hK, vD_ix hi [0, 11, 69, 70, 71, 72, 73] (by rfl) (by decide) (by decide)⟩, ad_ix [0, 11, 69, 70, 71, 72, 73] (by rfl) (by decide), fun o t hq => ?_⟩
  obtain ⟨⟨r, ⟨u0, u1, u2, u3, u4⟩, ho, ⟨hr, hu⟩, hP1, -⟩, hF⟩ := hq
  have FR : ∀ lo hi' : Nat, hi' ≤ 129 → ([0, 11, 69, 70, 71, 72, 73] : List Nat).all (fun x => decide (x < lo) || decide (hi' ≤ x)) = true → ∀ j : Nat, lo ≤ j → j < hi' → ax j < st.heap.size → t.heap[ax j]? = st.heap[ax j]? := fun lo hi' h1 h2 => fr_ix hi h1 hF.2 [0, 11, 69, 70, 71, 72, 73] (by rfl) (by decide) h2
  have xS : (if ((0 ≤ i.toInt ∧ i.toInt < ((N : Nat) : Int)) ∧ (g.toInt = -4 ∨ (0 ≤ g.toInt ∧ g.toInt < ((B : Nat) : Int))) ∧ (0 ≤ k.toInt ∧ k.toInt < ((B : Nat) : Int)) ∧ 0 ≤ hm.toInt ∧ hm.toInt ≤ 20) ∧ S < 8 then S + 1 else S) = u0 := Eq.symm (by first | exact hu | exact hu.1 | exact hu.2 | exact hu.1.1 | exact hu.1.2 | exact hu.2.1.trans (txt_cf (by assumption)) | exact hu.2.1.trans (txt_rf (by assumption)) | exact hu.1.1.trans lmap_step | omega)
  subst xS
  have np0 : X10Pr dC dI G ax fa t.heap := ⟨zi0_13, hP1 0 _ rfl⟩
  have np4 : X10P1 dC dI G ax N B t.heap := ⟨zn11_2, zf12, zf13, zf14, zf15, zf16, zf17, p4j0, p4j1, p4j2, hP1 1 _ rfl, q12.kept (FR 12 13 (by decide) (by decide) 12 (by decide) (by decide) q12.lt), q13.kept (FR 13 14 (by decide) (by decide) 13 (by decide) (by decide) q13.lt), q14.kept (FR 14 15 (by decide) (by decide) 14 (by decide) (by decide) q14.lt), q15.kept (FR 15 16 (by decide) (by decide) 15 (by decide) (by decide) q15.lt), q16.kept (FR 16 17 (by decide) (by decide) 16 (by decide) (by decide) q16.lt), q17.kept (FR 17 18 (by decide) (by decide) 17 (by decide) (by decide) q17.lt)⟩
  have np13 : X10P8 dC dI G ax (if ((0 ≤ i.toInt ∧ i.toInt < ((N : Nat) : Int)) ∧ (g.toInt = -4 ∨ (0 ≤ g.toInt ∧ g.toInt < ((B : Nat) : Int))) ∧ (0 ≤ k.toInt ∧ k.toInt < ((B : Nat) : Int)) ∧ 0 ≤ hm.toInt ∧ hm.toInt ≤ 20) ∧ S < 8 then S + 1 else S) t.heap := ⟨u1, u2, u3, u4, (by first | omega | exact hu | exact hu.1 | exact hu.1.1 | exact hu.1.2 | exact hu.2 | exact fd_nn (by assumption) | (split at hu <;> omega) | (split <;> omega) | exact E_inv (by assumption)), hP1 2 _ rfl, hP1 3 _ rfl, hP1 4 _ rfl, hP1 5 _ rfl, hP1 6 _ rfl⟩
  exact ⟨⟨r, (), ho, hr, ⟨np0, p1.kept (FR 1 2 (by decide) (by decide)), p2.kept (FR 2 4 (by decide) (by decide)), p3.kept (FR 4 11 (by decide) (by decide)), np4, p5.kept (FR 18 25 (by decide) (by decide)), p6.kept (FR 25 26 (by decide) (by decide)), p7.kept (FR 26 33 (by decide) (by decide)), p8.kept (FR 33 40 (by decide) (by decide)), p9.kept (FR 40 41 (by decide) (by decide)), p10.kept (FR 41 44 (by decide) (by decide)), p11.kept (FR 44 68 (by decide) (by decide)), p12.kept (FR 68 69 (by decide) (by decide)), np13, p14.kept (FR 74 77 (by decide) (by decide)), p15.kept (FR 77 102 (by decide) (by decide)), p16.kept (FR 102 112 (by decide) (by decide)), hX⟩⟩, hF.wide (ad_ix [0, 11, 69, 70, 71, 72, 73] (by rfl) (by decide))⟩

set_option maxHeartbeats 1000000 in
set_option maxRecDepth 100000 in
theorem k_X10_forgetE (l : Launch) (dC : Nat → ClassId) (dI : Nat → Nat → Nat) (G : Nat → ClassId) (sz : Nat) (ax : Nat → Nat) (hi : adInj 129 ax) (T : Nat) (Y : Nat → Int32) (fa : Int32) (N : Nat) (B : Nat) (N1 : Nat) (B1 : Nat) (N2 : Nat) (B2 : Nat) (K : Nat → Int32) (S : Nat) (M : Nat) (E : Nat → Int32) (Z : Nat → Int32) (n : Int32) : Met l yX10_forget (Cond.code yX10_forget cX10_forget 3 (some .int) :: GT) ({ frames := 0, cells := 0, slots := 0, locals := 0 } : Room) (PcI [.ref (ax 0), .int n] dC dI G (X10I dC dI G ax T Y fa N B N1 B1 N2 B2 K S M E Z) sz) (va_Qi (fun (r : Int32) (_ : Unit) => r = if 0 ≤ n.toInt ∧ n.toInt ≤ ((S : Nat) : Int) then nI S else -1) (fun _ t => X10I dC dI G ax T Y fa N B N1 B1 N2 B2 K (if 0 ≤ n.toInt ∧ n.toInt ≤ ((S : Nat) : Int) then n.toNatClampNeg else S) M E Z t.heap) (adX 0 112 ax sz)) 0 0 (adX 0 112 ax sz) := by
  refine Met.pick (fun a st hp => ?_)
  obtain ⟨e0, hsz, hI, hK⟩ := hp
  subst hsz
  have hI0 := hI
  unfold X10I at hI
  obtain ⟨p0, p1, p2, p3, p4, p5, p6, p7, p8, p9, p10, p11, p12, p13, p14, p15, p16, hX⟩ := hI
  unfold X10Pr at p0
  obtain ⟨zi0_13, q0⟩ := p0
  unfold X10P8 at p13
  obtain ⟨zf70, zf71, zf72, zf73, p13j0, q69, q70, q71, q72, q73⟩ := p13
  refine ⟨_, _, _, c_X10_forgetE l dC dI G _ (ax 0) (ax 1) (ax 11) (ax 18) (ax 25) (ax 40) (ax 41) (ax 44) (ax 68) (ax 69) (ax 74) (ax 77) (ax 102) (ax 70) (ax 71) (ax 72) (ax 73) S fa zi0_13 n (by assumption), ⟨e0, rfl, (vpc q0 (vpc q69 va_nilP)), hK, vD_ix hi [0, 69] (by rfl) (by decide) (by decide)⟩, ad_ix [0, 69] (by rfl) (by decide), fun o t hq => ?_⟩
  obtain ⟨⟨r, u1, ho, ⟨hr, hu⟩, hP1, -⟩, hF⟩ := hq
  have FR : ∀ lo hi' : Nat, hi' ≤ 129 → ([0, 69] : List Nat).all (fun x => decide (x < lo) || decide (hi' ≤ x)) = true → ∀ j : Nat, lo ≤ j → j < hi' → ax j < st.heap.size → t.heap[ax j]? = st.heap[ax j]? := fun lo hi' h1 h2 => fr_ix hi h1 hF.2 [0, 69] (by rfl) (by decide) h2
  have xS : (if 0 ≤ n.toInt ∧ n.toInt ≤ ((S : Nat) : Int) then n.toNatClampNeg else S) = u1 := Eq.symm (by first | exact hu | exact hu.1 | exact hu.2 | exact hu.1.1 | exact hu.1.2 | exact hu.2.1.trans (txt_cf (by assumption)) | exact hu.2.1.trans (txt_rf (by assumption)) | exact hu.1.1.trans lmap_step | omega)
  subst xS
  have np0 : X10Pr dC dI G ax fa t.heap := ⟨zi0_13, hP1 0 _ rfl⟩
  have np13 : X10P8 dC dI G ax (if 0 ≤ n.toInt ∧ n.toInt ≤ ((S : Nat) : Int) then n.toNatClampNeg else S) t.heap := ⟨zf70, zf71, zf72, zf73, (by first | omega | exact hu | exact hu.1 | exact hu.1.1 | exact hu.1.2 | exact hu.2 | exact fd_nn (by assumption) | (split at hu <;> omega) | (split <;> omega) | exact E_inv (by assumption)), hP1 1 _ rfl, q70.kept (FR 70 71 (by decide) (by decide) 70 (by decide) (by decide) q70.lt), q71.kept (FR 71 72 (by decide) (by decide) 71 (by decide) (by decide) q71.lt), q72.kept (FR 72 73 (by decide) (by decide) 72 (by decide) (by decide) q72.lt), q73.kept (FR 73 74 (by decide) (by decide) 73 (by decide) (by decide) q73.lt)⟩
  exact ⟨⟨r, (), ho, hr, ⟨np0, p1.kept (FR 1 2 (by decide) (by decide)), p2.kept (FR 2 4 (by decide) (by decide)), p3.kept (FR 4 11 (by decide) (by decide)), p4.kept (FR 11 18 (by decide) (by decide)), p5.kept (FR 18 25 (by decide) (by decide)), p6.kept (FR 25 26 (by decide) (by decide)), p7.kept (FR 26 33 (by decide) (by decide)), p8.kept (FR 33 40 (by decide) (by decide)), p9.kept (FR 40 41 (by decide) (by decide)), p10.kept (FR 41 44 (by decide) (by decide)), p11.kept (FR 44 68 (by decide) (by decide)), p12.kept (FR 68 69 (by decide) (by decide)), np13, p14.kept (FR 74 77 (by decide) (by decide)), p15.kept (FR 77 102 (by decide) (by decide)), p16.kept (FR 102 112 (by decide) (by decide)), hX⟩⟩, hF.wide (ad_ix [0, 69] (by rfl) (by decide))⟩
