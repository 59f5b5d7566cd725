set_option maxHeartbeats 1000000 in
set_option maxRecDepth 100000 in
theorem k_X10_steps (l : Launch) (dC : Nat → ClassId) (dI : Nat → Nat → Nat) (G : Nat → ClassId) (sz : Nat) (ax : Nat → Nat) (hi : adInj 129 ax) (T : Nat) (Y : Nat → Int32) (fa : Int32) (N : Nat) (B : Nat) (N1 : Nat) (B1 : Nat) (N2 : Nat) (B2 : Nat) (K : Nat → Int32) (S : Nat) (M : Nat) (E : Nat → Int32) (Z : Nat → Int32) (b : Int32) (what : Int32) : Met l yX10_steps (Cond.code yX10_steps cX10_steps 7 (some .int) :: GT) ({ frames := 4, cells := 0, slots := 0, locals := 121 } : Room) (PcI [.ref (ax 0), .int b, .int what] dC dI G (X10I dC dI G ax T Y fa N B N1 B1 N2 B2 K S M E Z) sz) (va_Qi (fun (r : Int32) (_ : Unit) => True) (fun _ t => X10I dC dI G ax T Y fa N B N1 B1 N2 B2 K S M E Z t.heap) (adX 0 112 ax sz)) 0 0 (adX 0 112 ax sz) := by
  refine Met.pick (fun a st hp => ?_)
  obtain ⟨e0, hsz, hI, hK⟩ := hp
  subst hsz
  have hI0 := hI
  unfold X10I at hI
  obtain ⟨p0, p1, p2, p3, p4, p5, p6, p7, p8, p9, p10, p11, p12, p13, p14, p15, p16, hX⟩ := hI
  unfold X10Pr at p0
  obtain ⟨zi0_13, q0⟩ := p0
  unfold X10P1 at p4
  obtain ⟨zn11_2, zf12, zf13, zf14, zf15, zf16, zf17, p4j0, p4j1, p4j2, q11, q12, q13, q14, q15, q16, q17⟩ := p4
  unfold X10P2 at p5
  obtain ⟨zn18_0, zn18_1, zn18_2, zf19, zf20, zf21, zf22, zf23, zf24, p5j0, p5j1, p5j2, q18, q19, q20, q21, q22, q23, q24⟩ := p5
  unfold X10P8 at p13
  obtain ⟨zf70, zf71, zf72, zf73, p13j0, q69, q70, q71, q72, q73⟩ := p13
  refine ⟨_, _, _, c_X10_steps l dC dI G _ (ax 0) (ax 1) (ax 11) (ax 18) (ax 25) (ax 40) (ax 41) (ax 44) (ax 68) (ax 69) (ax 74) (ax 77) (ax 102) (ax 12) (ax 13) (ax 14) (ax 15) (ax 16) (ax 17) N B zn11_2 (ax 19) (ax 20) (ax 21) (ax 22) (ax 23) (ax 24) zn18_0 zn18_1 zn18_2 (ax 70) (ax 71) (ax 72) (ax 73) S fa zi0_13 b what zf12 zf13 zf14 zf15 zf16 zf17 zf19 zf20 zf21 zf22 zf23 zf24 zf70 zf71 zf72 zf73 (by assumption) (by assumption) (by assumption) (by assumption) (by assumption) (by assumption) (by assumption), ⟨e0, rfl, (vpc q0 (vpc q18 (vpc q19 (vpc q20 (vpc q21 (vpc q22 (vpc q23 (vpc q24 (vpc q11 (vpc q12 (vpc q13 (vpc q14 (vpc q15 (vpc q16 (vpc q17 (vpc q69 (vpc q70 (vpc q71 (vpc q72 (vpc q73 va_nilP)))))))))))))))))))), hK, vD_ix hi [0, 18, 19, 20, 21, 22, 23, 24, 11, 12, 13, 14, 15, 16, 17, 69, 70, 71, 72, 73] (by rfl) (by decide) (by decide)⟩, ad_ix [0, 18, 19, 20, 21, 22, 23, 24, 11, 12, 13, 14, 15, 16, 17, 69, 70, 71, 72, 73] (by rfl) (by decide), fun o t hq => ?_⟩
  obtain ⟨⟨r, ⟨u0, u1, u2, u3, u4, u5, u6, u7, u8⟩, ho, ⟨hr, hu⟩, hP1, -⟩, hF⟩ := hq
  have FR : ∀ lo hi' : Nat, hi' ≤ 129 → ([0, 18, 19, 20, 21, 22, 23, 24, 11, 12, 13, 14, 15, 16, 17, 69, 70, 71, 72, 73] : List Nat).all (fun x => decide (x < lo) || decide (hi' ≤ x)) = true → ∀ j : Nat, lo ≤ j → j < hi' → ax j < st.heap.size → t.heap[ax j]? = st.heap[ax j]? := fun lo hi' h1 h2 => fr_ix hi h1 hF.2 [0, 18, 19, 20, 21, 22, 23, 24, 11, 12, 13, 14, 15, 16, 17, 69, 70, 71, 72, 73] (by rfl) (by decide) h2
  have np0 : X10Pr dC dI G ax fa t.heap := ⟨zi0_13, hP1 0 _ rfl⟩
  have np4 : X10P1 dC dI G ax N B t.heap := ⟨zn11_2, zf12, zf13, zf14, zf15, zf16, zf17, p4j0, p4j1, p4j2, hP1 8 _ rfl, hP1 9 _ rfl, hP1 10 _ rfl, hP1 11 _ rfl, hP1 12 _ rfl, hP1 13 _ rfl, hP1 14 _ rfl⟩
  have np5 : X10P2 dC dI G ax t.heap := ⟨u0, u1, u2, u3, u4, u5, u6, u7, u8, (by first | omega | exact hu | exact hu.1 | exact hu.1.1 | exact hu.1.2 | exact hu.2 | exact fd_nn (by assumption) | (split at hu <;> omega) | (split <;> omega) | exact E_inv (by assumption)), (by first | omega | exact hu | exact hu.1 | exact hu.1.1 | exact hu.1.2 | exact hu.2 | exact fd_nn (by assumption) | (split at hu <;> omega) | (split <;> omega) | exact E_inv (by assumption)), (by first | omega | exact hu | exact hu.1 | exact hu.1.1 | exact hu.1.2 | exact hu.2 | exact fd_nn (by assumption) | (split at hu <;> omega) | (split <;> omega) | exact E_inv (by assumption)), hP1 1 _ rfl, hP1 2 _ rfl, hP1 3 _ rfl, hP1 4 _ rfl, hP1 5 _ rfl, hP1 6 _ rfl, hP1 7 _ rfl⟩
  have np13 : X10P8 dC dI G ax S t.heap := ⟨zf70, zf71, zf72, zf73, p13j0, hP1 15 _ rfl, hP1 16 _ rfl, hP1 17 _ rfl, hP1 18 _ rfl, hP1 19 _ rfl⟩
  exact ⟨⟨r, (), ho, trivial, ⟨np0, p1.kept (FR 1 2 (by decide) (by decide)), p2.kept (FR 2 4 (by decide) (by decide)), p3.kept (FR 4 11 (by decide) (by decide)), np4, np5, p6.kept (FR 25 26 (by decide) (by decide)), p7.kept (FR 26 33 (by decide) (by decide)), p8.kept (FR 33 40 (by decide) (by decide)), p9.kept (FR 40 41 (by decide) (by decide)), p10.kept (FR 41 44 (by decide) (by decide)), p11.kept (FR 44 68 (by decide) (by decide)), p12.kept (FR 68 69 (by decide) (by decide)), np13, p14.kept (FR 74 77 (by decide) (by decide)), p15.kept (FR 77 102 (by decide) (by decide)), p16.kept (FR 102 112 (by decide) (by decide)), hX⟩⟩, hF.wide (ad_ix [0, 18, 19, 20, 21, 22, 23, 24, 11, 12, 13, 14, 15, 16, 17, 69, 70, 71, 72, 73] (by rfl) (by decide))⟩

set_option maxHeartbeats 1000000 in
set_option maxRecDepth 100000 in
theorem k_X10_markE (l : Launch) (dC : Nat → ClassId) (dI : Nat → Nat → Nat) (G : Nat → ClassId) (sz : Nat) (ax : Nat → Nat) (hi : adInj 129 ax) (T : Nat) (Y : Nat → Int32) (fa : Int32) (N : Nat) (B : Nat) (N1 : Nat) (B1 : Nat) (N2 : Nat) (B2 : Nat) (K : Nat → Int32) (S : Nat) (M : Nat) (E : Nat → Int32) (Z : Nat → Int32) (i : Int32) (d : Int32) : Met l yX10_mark (Cond.code yX10_mark cX10_mark 3 (some .int) :: GT) ({ frames := 1, cells := 0, slots := 0, locals := 22 } : Room) (PcI [.ref (ax 0), .int i, .int d] dC dI G (X10I dC dI G ax T Y fa N B N1 B1 N2 B2 K S M E Z) sz) (va_Qi (fun (r : Int32) (_ : Unit) => r = if ((0 ≤ i.toInt ∧ i.toInt < ((N : Nat) : Int)) ∧ 0 ≤ d.toInt ∧ d.toInt ≤ 9) then (if M < 6 then nI (M + 1) else -3) else -1) (fun _ t => X10I dC dI G ax T Y fa N B N1 B1 N2 B2 K S (if ((0 ≤ i.toInt ∧ i.toInt < ((N : Nat) : Int)) ∧ 0 ≤ d.toInt ∧ d.toInt ≤ 9) ∧ M < 6 then M + 1 else M) E Z t.heap) (adX 0 112 ax sz)) 0 0 (adX 0 112 ax sz) := by
  refine Met.pick (fun a st hp => ?_)
  obtain ⟨e0, hsz, hI, hK⟩ := hp
  subst hsz
  have hI0 := hI
  unfold X10I at hI
  obtain ⟨p0, p1, p2, p3, p4, p5, p6, p7, p8, p9, p10, p11, p12, p13, p14, p15, p16, hX⟩ := hI
  unfold X10Pr at p0
  obtain ⟨zi0_13, q0⟩ := p0
  unfold X10P1 at p4
  obtain ⟨zn11_2, zf12, zf13, zf14, zf15, zf16, zf17, p4j0, p4j1, p4j2, q11, q12, q13, q14, q15, q16, q17⟩ := p4
  unfold X10P9 at p14
  obtain ⟨zf75, zf76, p14j0, q74, q75, q76⟩ := p14
  refine ⟨_, _, _, c_X10_markE l dC dI G _ (ax 0) (ax 1) (ax 11) (ax 18) (ax 25) (ax 40) (ax 41) (ax 44) (ax 68) (ax 69) (ax 74) (ax 77) (ax 102) (ax 12) (ax 13) (ax 14) (ax 15) (ax 16) (ax 17) N B zn11_2 (ax 75) (ax 76) M fa zi0_13 i d zf75 zf76 (by assumption) (by assumption) (by assumption) (by assumption), ⟨e0, rfl, (vpc q0 (vpc q11 (vpc q74 (vpc q75 (vpc q76 va_nilP))))), hK, vD_ix hi [0, 11, 74, 75, 76] (by rfl) (by decide) (by decide)⟩, ad_ix [0, 11, 74, 75, 76] (by rfl) (by decide), fun o t hq => ?_⟩
  obtain ⟨⟨r, ⟨u0, u1, u2⟩, ho, ⟨hr, hu⟩, hP1, -⟩, hF⟩ := hq
  have FR : ∀ lo hi' : Nat, hi' ≤ 129 → ([0, 11, 74, 75, 76] : List Nat).all (fun x => decide (x < lo) || decide (hi' ≤ x)) = true → ∀ j : Nat, lo ≤ j → j < hi' → ax j < st.heap.size → t.heap[ax j]? = st.heap[ax j]? := fun lo hi' h1 h2 => fr_ix hi h1 hF.2 [0, 11, 74, 75, 76] (by rfl) (by decide) h2
  have xM : (if ((0 ≤ i.toInt ∧ i.toInt < ((N : Nat) : Int)) ∧ 0 ≤ d.toInt ∧ d.toInt ≤ 9) ∧ M < 6 then M + 1 else M) = u0 := Eq.symm (by first | exact hu | exact hu.1 | exact hu.2 | exact hu.1.1 | exact hu.1.2 | exact hu.2.1.trans (txt_cf (by assumption)) | exact hu.2.1.trans (txt_rf (by assumption)) | exact hu.1.1.trans lmap_step | omega)
  subst xM
  have np0 : X10Pr dC dI G ax fa t.heap := ⟨zi0_13, hP1 0 _ rfl⟩
  have np4 : X10P1 dC dI G ax N B t.heap := ⟨zn11_2, zf12, zf13, zf14, zf15, zf16, zf17, p4j0, p4j1, p4j2, hP1 1 _ rfl, q12.kept (FR 12 13 (by decide) (by decide) 12 (by decide) (by decide) q12.lt), q13.kept (FR 13 14 (by decide) (by decide) 13 (by decide) (by decide) q13.lt), q14.kept (FR 14 15 (by decide) (by decide) 14 (by decide) (by decide) q14.lt), q15.kept (FR 15 16 (by decide) (by decide) 15 (by decide) (by decide) q15.lt), q16.kept (FR 16 17 (by decide) (by decide) 16 (by decide) (by decide) q16.lt), q17.kept (FR 17 18 (by decide) (by decide) 17 (by decide) (by decide) q17.lt)⟩
  have np14 : X10P9 dC dI G ax (if ((0 ≤ i.toInt ∧ i.toInt < ((N : Nat) : Int)) ∧ 0 ≤ d.toInt ∧ d.toInt ≤ 9) ∧ M < 6 then M + 1 else M) t.heap := ⟨u1, u2, (by first | omega | exact hu | exact hu.1 | exact hu.1.1 | exact hu.1.2 | exact hu.2 | exact fd_nn (by assumption) | (split at hu <;> omega) | (split <;> omega) | exact E_inv (by assumption)), hP1 2 _ rfl, hP1 3 _ rfl, hP1 4 _ rfl⟩
  exact ⟨⟨r, (), ho, hr, ⟨np0, p1.kept (FR 1 2 (by decide) (by decide)), p2.kept (FR 2 4 (by decide) (by decide)), p3.kept (FR 4 11 (by decide) (by decide)), np4, p5.kept (FR 18 25 (by decide) (by decide)), p6.kept (FR 25 26 (by decide) (by decide)), p7.kept (FR 26 33 (by decide) (by decide)), p8.kept (FR 33 40 (by decide) (by decide)), p9.kept (FR 40 41 (by decide) (by decide)), p10.kept (FR 41 44 (by decide) (by decide)), p11.kept (FR 44 68 (by decide) (by decide)), p12.kept (FR 68 69 (by decide) (by decide)), p13.kept (FR 69 74 (by decide) (by decide)), np14, p15.kept (FR 77 102 (by decide) (by decide)), p16.kept (FR 102 112 (by decide) (by decide)), hX⟩⟩, hF.wide (ad_ix [0, 11, 74, 75, 76] (by rfl) (by decide))⟩

set_option maxHeartbeats 1000000 in
set_option maxRecDepth 100000 in
theorem k_X10_wipeE (l : Launch) (dC : Nat → ClassId) (dI : Nat → Nat → Nat) (G : Nat → ClassId) (sz : Nat) (ax : Nat → Nat) (hi : adInj 129 ax) (T : Nat) (Y : Nat → Int32) (fa : Int32) (N : Nat) (B : Nat) (N1 : Nat) (B1 : Nat) (N2 : Nat) (B2 : Nat) (K : Nat → Int32) (S : Nat) (M : Nat) (E : Nat → Int32) (Z : Nat → Int32) (n : Int32) : Met l yX10_wipe (Cond.code yX10_wipe cX10_wipe 3 (some .int) :: GT) ({ frames := 0, cells := 0, slots := 0, locals := 0 } : Room) (PcI [.ref (ax 0), .int n] dC dI G (X10I dC dI G ax T Y fa N B N1 B1 N2 B2 K S M E Z) sz) (va_Qi (fun (r : Int32) (_ : Unit) => r = if 0 ≤ n.toInt ∧ n.toInt ≤ ((M : Nat) : Int) then nI M else -1) (fun _ t => X10I dC dI G ax T Y fa N B N1 B1 N2 B2 K S (if 0 ≤ n.toInt ∧ n.toInt ≤ ((M : Nat) : Int) then n.toNatClampNeg else M) E Z t.heap) (adX 0 112 ax sz)) 0 0 (adX 0 112 ax sz) := by
  refine Met.pick (fun a st hp => ?_)
  obtain ⟨e0, hsz, hI, hK⟩ := hp
  subst hsz
  have hI0 := hI
  unfold X10I at hI
  obtain ⟨p0, p1, p2, p3, p4, p5, p6, p7, p8, p9, p10, p11, p12, p13, p14, p15, p16, hX⟩ := hI
  unfold X10Pr at p0
  obtain ⟨zi0_13, q0⟩ := p0
  unfold X10P9 at p14
  obtain ⟨zf75, zf76, p14j0, q74, q75, q76⟩ := p14
  refine ⟨_, _, _, c_X10_wipeE l dC dI G _ (ax 0) (ax 1) (ax 11) (ax 18) (ax 25) (ax 40) (ax 41) (ax 44) (ax 68) (ax 69) (ax 74) (ax 77) (ax 102) (ax 75) (ax 76) M fa zi0_13 n (by assumption), ⟨e0, rfl, (vpc q0 (vpc q74 va_nilP)), hK, vD_ix hi [0, 74] (by rfl) (by decide) (by decide)⟩, ad_ix [0, 74] (by rfl) (by decide), fun o t hq => ?_⟩
  obtain ⟨⟨r, u1, ho, ⟨hr, hu⟩, hP1, -⟩, hF⟩ := hq
  have FR : ∀ lo hi' : Nat, hi' ≤ 129 → ([0, 74] : List Nat).all (fun x => decide (x < lo) || decide (hi' ≤ x)) = true → ∀ j : Nat, lo ≤ j → j < hi' → ax j < st.heap.size → t.heap[ax j]? = st.heap[ax j]? := fun lo hi' h1 h2 => fr_ix hi h1 hF.2 [0, 74] (by rfl) (by decide) h2
  have xM : (if 0 ≤ n.toInt ∧ n.toInt ≤ ((M : Nat) : Int) then n.toNatClampNeg else M) = u1 := Eq.symm (by first | exact hu | exact hu.1 | exact hu.2 | exact hu.1.1 | exact hu.1.2 | exact hu.2.1.trans (txt_cf (by assumption)) | exact hu.2.1.trans (txt_rf (by assumption)) | exact hu.1.1.trans lmap_step | omega)
  subst xM
  have np0 : X10Pr dC dI G ax fa t.heap := ⟨zi0_13, hP1 0 _ rfl⟩
  have np14 : X10P9 dC dI G ax (if 0 ≤ n.toInt ∧ n.toInt ≤ ((M : Nat) : Int) then n.toNatClampNeg else M) t.heap := ⟨zf75, zf76, (by first | omega | exact hu | exact hu.1 | exact hu.1.1 | exact hu.1.2 | exact hu.2 | exact fd_nn (by assumption) | (split at hu <;> omega) | (split <;> omega) | exact E_inv (by assumption)), hP1 1 _ rfl, q75.kept (FR 75 76 (by decide) (by decide) 75 (by decide) (by decide) q75.lt), q76.kept (FR 76 77 (by decide) (by decide) 76 (by decide) (by decide) q76.lt)⟩
  exact ⟨⟨r, (), ho, hr, ⟨np0, p1.kept (FR 1 2 (by decide) (by decide)), p2.kept (FR 2 4 (by decide) (by decide)), p3.kept (FR 4 11 (by decide) (by decide)), p4.kept (FR 11 18 (by decide) (by decide)), p5.kept (FR 18 25 (by decide) (by decide)), p6.kept (FR 25 26 (by decide) (by decide)), p7.kept (FR 26 33 (by decide) (by decide)), p8.kept (FR 33 40 (by decide) (by decide)), p9.kept (FR 40 41 (by decide) (by decide)), p10.kept (FR 41 44 (by decide) (by decide)), p11.kept (FR 44 68 (by decide) (by decide)), p12.kept (FR 68 69 (by decide) (by decide)), p13.kept (FR 69 74 (by decide) (by decide)), np14, p15.kept (FR 77 102 (by decide) (by decide)), p16.kept (FR 102 112 (by decide) (by decide)), hX⟩⟩, hF.wide (ad_ix [0, 74] (by rfl) (by decide))⟩

set_option maxHeartbeats 1000000 in
set_option maxRecDepth 100000 in
theorem k_X10_paths (l : Launch) (dC : Nat → ClassId) (dI : Nat → Nat → Nat) (G : Nat → ClassId) (sz : Nat) (ax : Nat → Nat) (hi : adInj 129 ax) (T : Nat) (Y : Nat → Int32) (fa : Int32) (N : Nat) (B : Nat) (N1 : Nat) (B1 : Nat) (N2 : Nat) (B2 : Nat) (K : Nat → Int32) (S : Nat) (M : Nat) (E : Nat → Int32) (Z : Nat → Int32) : Met l yX10_paths (Cond.code yX10_paths cX10_paths 1 (some .int) :: GT) ({ frames := 5, cells := 0, slots := 0, locals := 111 } : Room) (PcI [.ref (ax 0)] dC dI G (X10I dC dI G ax T Y fa N B N1 B1 N2 B2 K S M E Z) sz) (va_Qi (fun (r : Int32) (_ : Unit) => True) (fun _ t => X10I dC dI G ax T Y fa N B N1 B1 N2 B2 K S M E Z t.heap) (adX 0 112 ax sz)) 0 0 (adX 0 112 ax sz) := by
  refine Met.pick (fun a st hp => ?_)
  obtain ⟨e0, hsz, hI, hK⟩ := hp
  subst hsz
  have hI0 := hI
  unfold X10I at hI
  obtain ⟨p0, p1, p2, p3, p4, p5, p6, p7, p8, p9, p10, p11, p12, p13, p14, p15, p16, hX⟩ := hI
  unfold X10Pr at p0
  obtain ⟨zi0_13, q0⟩ := p0
  unfold X10P1 at p4
  obtain ⟨zn11_2, zf12, zf13, zf14, zf15, zf16, zf17, p4j0, p4j1, p4j2, q11, q12, q13, q14, q15, q16, q17⟩ := p4
  unfold X10P9 at p14
  obtain ⟨zf75, zf76, p14j0, q74, q75, q76⟩ := p14
  unfold X10P10 at p15
  obtain ⟨zi77_0, zF80, zF91, q77, q78, q79, q80, q91⟩ := p15
  refine ⟨_, _, _, c_X10_paths l dC dI G _ (ax 0) (ax 1) (ax 11) (ax 18) (ax 25) (ax 40) (ax 41) (ax 44) (ax 68) (ax 69) (ax 74) (ax 77) (ax 102) (ax 78) (ax 79) (ax 12) (ax 13) (ax 14) (ax 15) (ax 16) (ax 17) N B zn11_2 (ax 75) (ax 76) M fa zi0_13 zi77_0 zf12 zf13 zf14 zf15 zf16 zf17 zf75 zf76 (fun iq => ax (80 + iq)) (fun iq => ax (91 + iq)) zF80 zF91 (by assumption) (by assumption) (by assumption) (by assumption), ⟨e0, rfl, (va_P.app (vpc q0 (vpc q77 (vpc q78 (vpc q79 (vpc q11 (vpc q12 (vpc q13 (vpc q14 (vpc q15 (vpc q16 (vpc q17 (vpc q74 (vpc q75 (vpc q76 va_nilP)))))))))))))) (va_P.app q80 (va_P.app q91 va_nilP))), hK, vD_ix hi [0, 77, 78, 79, 11, 12, 13, 14, 15, 16, 17, 74, 75, 76, 80, 81, 82, 83, 84, 85, 86, 87, 88, 89, 90, 91, 92, 93, 94, 95, 96, 97, 98, 99, 100, 101] (by rfl) (by decide) (by decide)⟩, ad_ix [0, 77, 78, 79, 11, 12, 13, 14, 15, 16, 17, 74, 75, 76, 80, 81, 82, 83, 84, 85, 86, 87, 88, 89, 90, 91, 92, 93, 94, 95, 96, 97, 98, 99, 100, 101] (by rfl) (by decide), fun o t hq => ?_⟩
  obtain ⟨⟨r, ⟨u0, u1, u2⟩, ho, ⟨hr, hu⟩, hP1, -⟩, hF⟩ := hq
  have FR : ∀ lo hi' : Nat, hi' ≤ 129 → ([0, 77, 78, 79, 11, 12, 13, 14, 15, 16, 17, 74, 75, 76, 80, 81, 82, 83, 84, 85, 86, 87, 88, 89, 90, 91, 92, 93, 94, 95, 96, 97, 98, 99, 100, 101] : List Nat).all (fun x => decide (x < lo) || decide (hi' ≤ x)) = true → ∀ j : Nat, lo ≤ j → j < hi' → ax j < st.heap.size → t.heap[ax j]? = st.heap[ax j]? := fun lo hi' h1 h2 => fr_ix hi h1 hF.2 [0, 77, 78, 79, 11, 12, 13, 14, 15, 16, 17, 74, 75, 76, 80, 81, 82, 83, 84, 85, 86, 87, 88, 89, 90, 91, 92, 93, 94, 95, 96, 97, 98, 99, 100, 101] (by rfl) (by decide) h2
  have np0 : X10Pr dC dI G ax fa t.heap := ⟨zi0_13, hP1 0 _ rfl⟩
  have np4 : X10P1 dC dI G ax N B t.heap := ⟨zn11_2, zf12, zf13, zf14, zf15, zf16, zf17, p4j0, p4j1, p4j2, hP1 4 _ rfl, hP1 5 _ rfl, hP1 6 _ rfl, hP1 7 _ rfl, hP1 8 _ rfl, hP1 9 _ rfl, hP1 10 _ rfl⟩
  have np14 : X10P9 dC dI G ax M t.heap := ⟨zf75, zf76, p14j0, hP1 11 _ rfl, hP1 12 _ rfl, hP1 13 _ rfl⟩
  have np15 : X10P10 dC dI G ax t.heap := ⟨u0, u1, u2, hP1 1 _ rfl, hP1 2 _ rfl, hP1 3 _ rfl, vp_mid hP1, vp_mid2 hP1⟩
  exact ⟨⟨r, (), ho, trivial, ⟨np0, p1.kept (FR 1 2 (by decide) (by decide)), p2.kept (FR 2 4 (by decide) (by decide)), p3.kept (FR 4 11 (by decide) (by decide)), np4, p5.kept (FR 18 25 (by decide) (by decide)), p6.kept (FR 25 26 (by decide) (by decide)), p7.kept (FR 26 33 (by decide) (by decide)), p8.kept (FR 33 40 (by decide) (by decide)), p9.kept (FR 40 41 (by decide) (by decide)), p10.kept (FR 41 44 (by decide) (by decide)), p11.kept (FR 44 68 (by decide) (by decide)), p12.kept (FR 68 69 (by decide) (by decide)), p13.kept (FR 69 74 (by decide) (by decide)), np14, np15, p16.kept (FR 102 112 (by decide) (by decide)), hX⟩⟩, hF.wide (ad_ix [0, 77, 78, 79, 11, 12, 13, 14, 15, 16, 17, 74, 75, 76, 80, 81, 82, 83, 84, 85, 86, 87, 88, 89, 90, 91, 92, 93, 94, 95, 96, 97, 98, 99, 100, 101] (by rfl) (by decide))⟩

set_option maxHeartbeats 1000000 in
set_option maxRecDepth 100000 in
theorem k_X10_eye (l : Launch) (dC : Nat → ClassId) (dI : Nat → Nat → Nat) (G : Nat → ClassId) (sz : Nat) (ax : Nat → Nat) (hi : adInj 129 ax) (T : Nat) (Y : Nat → Int32) (fa : Int32) (N : Nat) (B : Nat) (N1 : Nat) (B1 : Nat) (N2 : Nat) (B2 : Nat) (K : Nat → Int32) (S : Nat) (M : Nat) (E : Nat → Int32) (Z : Nat → Int32) (d : Int32) : Met l yX10_eye (Cond.code yX10_eye cX10_eye 4 (some .int) :: GT) ({ frames := 5, cells := 0, slots := 0, locals := 111 } : Room) (PcI [.ref (ax 0), .int d] dC dI G (X10I dC dI G ax T Y fa N B N1 B1 N2 B2 K S M E Z) sz) (va_Qi (fun (r : Int32) (_ : Unit) => True) (fun _ t => X10I dC dI G ax T Y fa N B N1 B1 N2 B2 K S M E Z t.heap) (adX 0 112 ax sz)) 0 0 (adX 0 112 ax sz) := by
  refine Met.pick (fun a st hp => ?_)
  obtain ⟨e0, hsz, hI, hK⟩ := hp
  subst hsz
  have hI0 := hI
  unfold X10I at hI
  obtain ⟨p0, p1, p2, p3, p4, p5, p6, p7, p8, p9, p10, p11, p12, p13, p14, p15, p16, hX⟩ := hI
  unfold X10Pr at p0
  obtain ⟨zi0_13, q0⟩ := p0
  unfold X10P1 at p4
  obtain ⟨zn11_2, zf12, zf13, zf14, zf15, zf16, zf17, p4j0, p4j1, p4j2, q11, q12, q13, q14, q15, q16, q17⟩ := p4
  unfold X10P9 at p14
  obtain ⟨zf75, zf76, p14j0, q74, q75, q76⟩ := p14
  unfold X10P10 at p15
  obtain ⟨zi77_0, zF80, zF91, q77, q78, q79, q80, q91⟩ := p15
  refine ⟨_, _, _, c_X10_eye l dC dI G _ (ax 0) (ax 1) (ax 11) (ax 18) (ax 25) (ax 40) (ax 41) (ax 44) (ax 68) (ax 69) (ax 74) (ax 77) (ax 102) (ax 78) (ax 79) (ax 12) (ax 13) (ax 14) (ax 15) (ax 16) (ax 17) N B zn11_2 (ax 75) (ax 76) M fa zi0_13 d zi77_0 zf12 zf13 zf14 zf15 zf16 zf17 zf75 zf76 (fun iq => ax (80 + iq)) (fun iq => ax (91 + iq)) zF80 zF91 (by assumption) (by assumption) (by assumption) (by assumption), ⟨e0, rfl, (va_P.app (vpc q0 (vpc q77 (vpc q78 (vpc q79 (vpc q11 (vpc q12 (vpc q13 (vpc q14 (vpc q15 (vpc q16 (vpc q17 (vpc q74 (vpc q75 (vpc q76 va_nilP)))))))))))))) (va_P.app q80 (va_P.app q91 va_nilP))), hK, vD_ix hi [0, 77, 78, 79, 11, 12, 13, 14, 15, 16, 17, 74, 75, 76, 80, 81, 82, 83, 84, 85, 86, 87, 88, 89, 90, 91, 92, 93, 94, 95, 96, 97, 98, 99, 100, 101] (by rfl) (by decide) (by decide)⟩, ad_ix [0, 77, 78, 79, 11, 12, 13, 14, 15, 16, 17, 74, 75, 76, 80, 81, 82, 83, 84, 85, 86, 87, 88, 89, 90, 91, 92, 93, 94, 95, 96, 97, 98, 99, 100, 101] (by rfl) (by decide), fun o t hq => ?_⟩
  obtain ⟨⟨r, ⟨u0, u1, u2⟩, ho, ⟨hr, hu⟩, hP1, -⟩, hF⟩ := hq
  have FR : ∀ lo hi' : Nat, hi' ≤ 129 → ([0, 77, 78, 79, 11, 12, 13, 14, 15, 16, 17, 74, 75, 76, 80, 81, 82, 83, 84, 85, 86, 87, 88, 89, 90, 91, 92, 93, 94, 95, 96, 97, 98, 99, 100, 101] : List Nat).all (fun x => decide (x < lo) || decide (hi' ≤ x)) = true → ∀ j : Nat, lo ≤ j → j < hi' → ax j < st.heap.size → t.heap[ax j]? = st.heap[ax j]? := fun lo hi' h1 h2 => fr_ix hi h1 hF.2 [0, 77, 78, 79, 11, 12, 13, 14, 15, 16, 17, 74, 75, 76, 80, 81, 82, 83, 84, 85, 86, 87, 88, 89, 90, 91, 92, 93, 94, 95, 96, 97, 98, 99, 100, 101] (by rfl) (by decide) h2
  have np0 : X10Pr dC dI G ax fa t.heap := ⟨zi0_13, hP1 0 _ rfl⟩
  have np4 : X10P1 dC dI G ax N B t.heap := ⟨zn11_2, zf12, zf13, zf14, zf15, zf16, zf17, p4j0, p4j1, p4j2, hP1 4 _ rfl, hP1 5 _ rfl, hP1 6 _ rfl, hP1 7 _ rfl, hP1 8 _ rfl, hP1 9 _ rfl, hP1 10 _ rfl⟩
  have np14 : X10P9 dC dI G ax M t.heap := ⟨zf75, zf76, p14j0, hP1 11 _ rfl, hP1 12 _ rfl, hP1 13 _ rfl⟩
  have np15 : X10P10 dC dI G ax t.heap := ⟨u0, u1, u2, hP1 1 _ rfl, hP1 2 _ rfl, hP1 3 _ rfl, vp_mid hP1, vp_mid2 hP1⟩
  exact ⟨⟨r, (), ho, trivial, ⟨np0, p1.kept (FR 1 2 (by decide) (by decide)), p2.kept (FR 2 4 (by decide) (by decide)), p3.kept (FR 4 11 (by decide) (by decide)), np4, p5.kept (FR 18 25 (by decide) (by decide)), p6.kept (FR 25 26 (by decide) (by decide)), p7.kept (FR 26 33 (by decide) (by decide)), p8.kept (FR 33 40 (by decide) (by decide)), p9.kept (FR 40 41 (by decide) (by decide)), p10.kept (FR 41 44 (by decide) (by decide)), p11.kept (FR 44 68 (by decide) (by decide)), p12.kept (FR 68 69 (by decide) (by decide)), p13.kept (FR 69 74 (by decide) (by decide)), np14, np15, p16.kept (FR 102 112 (by decide) (by decide)), hX⟩⟩, hF.wide (ad_ix [0, 77, 78, 79, 11, 12, 13, 14, 15, 16, 17, 74, 75, 76, 80, 81, 82, 83, 84, 85, 86, 87, 88, 89, 90, 91, 92, 93, 94, 95, 96, 97, 98, 99, 100, 101] (by rfl) (by decide))⟩

set_option maxHeartbeats 1000000 in
set_option maxRecDepth 100000 in
theorem k_X10_sure (l : Launch) (dC : Nat → ClassId) (dI : Nat → Nat → Nat) (G : Nat → ClassId) (sz : Nat) (ax : Nat → Nat) (hi : adInj 129 ax) (T : Nat) (Y : Nat → Int32) (fa : Int32) (N : Nat) (B : Nat) (N1 : Nat) (B1 : Nat) (N2 : Nat) (B2 : Nat) (K : Nat → Int32) (S : Nat) (M : Nat) (E : Nat → Int32) (Z : Nat → Int32) (what : Int32) : Met l yX10_sure (Cond.code yX10_sure cX10_sure 5 (some .int) :: GT) ({ frames := 5, cells := 0, slots := 0, locals := 112 } : Room) (PcI [.ref (ax 0), .int what] dC dI G (X10I dC dI G ax T Y fa N B N1 B1 N2 B2 K S M E Z) sz) (va_Qi (fun (r : Int32) (_ : Unit) => True) (fun _ t => X10I dC dI G ax T Y fa N B N1 B1 N2 B2 K S M E Z t.heap) (adX 0 112 ax sz)) 0 0 (adX 0 112 ax sz) := by
  refine Met.pick (fun a st hp => ?_)
  obtain ⟨e0, hsz, hI, hK⟩ := hp
  subst hsz
  have hI0 := hI
  unfold X10I at hI
  obtain ⟨p0, p1, p2, p3, p4, p5, p6, p7, p8, p9, p10, p11, p12, p13, p14, p15, p16, hX⟩ := hI
  unfold X10Pr at p0
  obtain ⟨zi0_13, q0⟩ := p0
  unfold X10P1 at p4
  obtain ⟨zn11_2, zf12, zf13, zf14, zf15, zf16, zf17, p4j0, p4j1, p4j2, q11, q12, q13, q14, q15, q16, q17⟩ := p4
  unfold X10P9 at p14
  obtain ⟨zf75, zf76, p14j0, q74, q75, q76⟩ := p14
  unfold X10P10 at p15
  obtain ⟨zi77_0, zF80, zF91, q77, q78, q79, q80, q91⟩ := p15
  refine ⟨_, _, _, c_X10_sure l dC dI G _ (ax 0) (ax 1) (ax 11) (ax 18) (ax 25) (ax 40) (ax 41) (ax 44) (ax 68) (ax 69) (ax 74) (ax 77) (ax 102) (ax 78) (ax 79) (ax 12) (ax 13) (ax 14) (ax 15) (ax 16) (ax 17) N B zn11_2 (ax 75) (ax 76) M fa zi0_13 what zi77_0 zf12 zf13 zf14 zf15 zf16 zf17 zf75 zf76 (fun iq => ax (80 + iq)) (fun iq => ax (91 + iq)) zF80 zF91 (by assumption) (by assumption) (by assumption) (by assumption), ⟨e0, rfl, (va_P.app (vpc q0 (vpc q77 (vpc q78 (vpc q79 (vpc q11 (vpc q12 (vpc q13 (vpc q14 (vpc q15 (vpc q16 (vpc q17 (vpc q74 (vpc q75 (vpc q76 va_nilP)))))))))))))) (va_P.app q80 (va_P.app q91 va_nilP))), hK, vD_ix hi [0, 77, 78, 79, 11, 12, 13, 14, 15, 16, 17, 74, 75, 76, 80, 81, 82, 83, 84, 85, 86, 87, 88, 89, 90, 91, 92, 93, 94, 95, 96, 97, 98, 99, 100, 101] (by rfl) (by decide) (by decide)⟩, ad_ix [0, 77, 78, 79, 11, 12, 13, 14, 15, 16, 17, 74, 75, 76, 80, 81, 82, 83, 84, 85, 86, 87, 88, 89, 90, 91, 92, 93, 94, 95, 96, 97, 98, 99, 100, 101] (by rfl) (by decide), fun o t hq => ?_⟩
  obtain ⟨⟨r, ⟨u0, u1, u2⟩, ho, ⟨hr, hu⟩, hP1, -⟩, hF⟩ := hq
  have FR : ∀ lo hi' : Nat, hi' ≤ 129 → ([0, 77, 78, 79, 11, 12, 13, 14, 15, 16, 17, 74, 75, 76, 80, 81, 82, 83, 84, 85, 86, 87, 88, 89, 90, 91, 92, 93, 94, 95, 96, 97, 98, 99, 100, 101] : List Nat).all (fun x => decide (x < lo) || decide (hi' ≤ x)) = true → ∀ j : Nat, lo ≤ j → j < hi' → ax j < st.heap.size → t.heap[ax j]? = st.heap[ax j]? := fun lo hi' h1 h2 => fr_ix hi h1 hF.2 [0, 77, 78, 79, 11, 12, 13, 14, 15, 16, 17, 74, 75, 76, 80, 81, 82, 83, 84, 85, 86, 87, 88, 89, 90, 91, 92, 93, 94, 95, 96, 97, 98, 99, 100, 101] (by rfl) (by decide) h2
  have np0 : X10Pr dC dI G ax fa t.heap := ⟨zi0_13, hP1 0 _ rfl⟩
  have np4 : X10P1 dC dI G ax N B t.heap := ⟨zn11_2, zf12, zf13, zf14, zf15, zf16, zf17, p4j0, p4j1, p4j2, hP1 4 _ rfl, hP1 5 _ rfl, hP1 6 _ rfl, hP1 7 _ rfl, hP1 8 _ rfl, hP1 9 _ rfl, hP1 10 _ rfl⟩
  have np14 : X10P9 dC dI G ax M t.heap := ⟨zf75, zf76, p14j0, hP1 11 _ rfl, hP1 12 _ rfl, hP1 13 _ rfl⟩
  have np15 : X10P10 dC dI G ax t.heap := ⟨u0, u1, u2, hP1 1 _ rfl, hP1 2 _ rfl, hP1 3 _ rfl, vp_mid hP1, vp_mid2 hP1⟩
  exact ⟨⟨r, (), ho, trivial, ⟨np0, p1.kept (FR 1 2 (by decide) (by decide)), p2.kept (FR 2 4 (by decide) (by decide)), p3.kept (FR 4 11 (by decide) (by decide)), np4, p5.kept (FR 18 25 (by decide) (by decide)), p6.kept (FR 25 26 (by decide) (by decide)), p7.kept (FR 26 33 (by decide) (by decide)), p8.kept (FR 33 40 (by decide) (by decide)), p9.kept (FR 40 41 (by decide) (by decide)), p10.kept (FR 41 44 (by decide) (by decide)), p11.kept (FR 44 68 (by decide) (by decide)), p12.kept (FR 68 69 (by decide) (by decide)), p13.kept (FR 69 74 (by decide) (by decide)), np14, np15, p16.kept (FR 102 112 (by decide) (by decide)), hX⟩⟩, hF.wide (ad_ix [0, 77, 78, 79, 11, 12, 13, 14, 15, 16, 17, 74, 75, 76, 80, 81, 82, 83, 84, 85, 86, 87, 88, 89, 90, 91, 92, 93, 94, 95, 96, 97, 98, 99, 100, 101] (by rfl) (by decide))⟩

set_option maxHeartbeats 1000000 in
set_option maxRecDepth 100000 in
theorem k_X10_keepE (l : Launch) (dC : Nat → ClassId) (dI : Nat → Nat → Nat) (G : Nat → ClassId) (sz : Nat) (ax : Nat → Nat) (hi : adInj 129 ax) (T : Nat) (Y : Nat → Int32) (fa : Int32) (N : Nat) (B : Nat) (N1 : Nat) (B1 : Nat) (N2 : Nat) (B2 : Nat) (K : Nat → Int32) (S : Nat) (M : Nat) (E : Nat → Int32) (Z : Nat → Int32) (k : Int32) : Met l yX10_keep (Cond.code yX10_keep cX10_keep 3 (some .int) :: GT) ({ frames := 2, cells := 0, slots := 0, locals := 121 } : Room) (PcI [.ref (ax 0), .int k] dC dI G (X10I dC dI G ax T Y fa N B N1 B1 N2 B2 K S M E Z) sz) (va_Qi (fun (r : Int32) (_ : Unit) => r = if (0 ≤ k.toInt ∧ k.toInt < 2) then (if K k.toNatClampNeg = 0 then 0 else 1) else -1) (fun _ t => X10I dC dI G ax T Y fa N B (if k = 0 then N else N1) (if k = 0 then B else B1) (if k = 1 then N else N2) (if k = 1 then B else B2) (if (0 ≤ k.toInt ∧ k.toInt < 2) then upd K k.toNatClampNeg 1 else K) S M E Z t.heap) (adX 0 112 ax sz)) 0 0 (adX 0 112 ax sz) := by
  refine Met.pick (fun a st hp => ?_)
  obtain ⟨e0, hsz, hI, hK⟩ := hp
  subst hsz
  have hI0 := hI
  unfold X10I at hI
  obtain ⟨p0, p1, p2, p3, p4, p5, p6, p7, p8, p9, p10, p11, p12, p13, p14, p15, p16, hX⟩ := hI
  unfold X10Pr at p0
  obtain ⟨zi0_13, q0⟩ := p0
  unfold X10P1 at p4
  obtain ⟨zn11_2, zf12, zf13, zf14, zf15, zf16, zf17, p4j0, p4j1, p4j2, q11, q12, q13, q14, q15, q16, q17⟩ := p4
  unfold X10P3 at p6
  have q25 := p6
  unfold X10P3_0 at p7
  obtain ⟨zn26_2, zf27, zf28, zf29, zf30, zf31, zf32, p7j0, p7j1, p7j2, q26, q27, q28, q29, q30, q31, q32⟩ := p7
  unfold X10P3_1 at p8
  obtain ⟨zn33_2, zf34, zf35, zf36, zf37, zf38, zf39, p8j0, p8j1, p8j2, q33, q34, q35, q36, q37, q38, q39⟩ := p8
  unfold X10P4 at p9
  have q40 := p9
  refine ⟨_, _, _, c_X10_keepE l dC dI G _ (ax 0) (ax 1) (ax 11) (ax 18) (ax 25) (ax 40) (ax 41) (ax 44) (ax 68) (ax 69) (ax 74) (ax 77) (ax 102) (ax 12) (ax 13) (ax 14) (ax 15) (ax 16) (ax 17) N B zn11_2 (ax 26) (ax 33) (ax 27) (ax 28) (ax 29) (ax 30) (ax 31) (ax 32) (ax 34) (ax 35) (ax 36) (ax 37) (ax 38) (ax 39) N1 B1 zn26_2 N2 B2 zn33_2 fa zi0_13 k zf12 zf13 zf14 zf15 zf16 zf17 K zf27 zf28 zf29 zf30 zf31 zf32 zf34 zf35 zf36 zf37 zf38 zf39 (by assumption) (by assumption) (by assumption) (by assumption) (by assumption) (by assumption) (by assumption) (by assumption) (by assumption), ⟨e0, rfl, (vpc q0 (vpc q11 (vpc q12 (vpc q13 (vpc q14 (vpc q15 (vpc q16 (vpc q17 (vpc q25 (vpc q40 (vpc q26 (vpc q27 (vpc q28 (vpc q29 (vpc q30 (vpc q31 (vpc q32 (vpc q33 (vpc q34 (vpc q35 (vpc q36 (vpc q37 (vpc q38 (vpc q39 va_nilP)))))))))))))))))))))))), hK, vD_ix hi [0, 11, 12, 13, 14, 15, 16, 17, 25, 40, 26, 27, 28, 29, 30, 31, 32, 33, 34, 35, 36, 37, 38, 39] (by rfl) (by decide) (by decide)⟩, ad_ix [0, 11, 12, 13, 14, 15, 16, 17, 25, 40, 26, 27, 28, 29, 30, 31, 32, 33, 34, 35, 36, 37, 38, 39] (by rfl) (by decide), fun o t hq => ?_⟩
  obtain ⟨⟨r, ⟨u0, u1, u2, u3, u4, u5, u6, u7, u8, u9, u10, u11, u12, u13, u14, u15, u16, u17, u18⟩, ho, ⟨hr, hu⟩, hP1, -⟩, hF⟩ := hq
  have FR : ∀ lo hi' : Nat, hi' ≤ 129 → ([0, 11, 12, 13, 14, 15, 16, 17, 25, 40, 26, 27, 28, 29, 30, 31, 32, 33, 34, 35, 36, 37, 38, 39] : List Nat).all (fun x => decide (x < lo) || decide (hi' ≤ x)) = true → ∀ j : Nat, lo ≤ j → j < hi' → ax j < st.heap.size → t.heap[ax j]? = st.heap[ax j]? := fun lo hi' h1 h2 => fr_ix hi h1 hF.2 [0, 11, 12, 13, 14, 15, 16, 17, 25, 40, 26, 27, 28, 29, 30, 31, 32, 33, 34, 35, 36, 37, 38, 39] (by rfl) (by decide) h2
  have xN1 : (if k = 0 then N else N1) = u0 := Eq.symm (hu.2.2.1)
  subst xN1
  have xB1 : (if k = 0 then B else B1) = u1 := Eq.symm (hu.2.2.2.1)
  subst xB1
  have xN2 : (if k = 1 then N else N2) = u9 := Eq.symm (hu.2.2.2.2.1)
  subst xN2
  have xB2 : (if k = 1 then B else B2) = u10 := Eq.symm (hu.2.2.2.2.2)
  subst xB2
  have y40 : (if (0 ≤ k.toInt ∧ k.toInt < 2) then upd K k.toNatClampNeg 1 else K) = u18 := Eq.symm (hu.2.1)
  subst y40
  replace hu := hu.1
  have np0 : X10Pr dC dI G ax fa t.heap := ⟨zi0_13, hP1 0 _ rfl⟩
  have np4 : X10P1 dC dI G ax N B t.heap := ⟨zn11_2, zf12, zf13, zf14, zf15, zf16, zf17, p4j0, p4j1, p4j2, hP1 1 _ rfl, hP1 2 _ rfl, hP1 3 _ rfl, hP1 4 _ rfl, hP1 5 _ rfl, hP1 6 _ rfl, hP1 7 _ rfl⟩
  have np6 : X10P3 dC dI G ax t.heap := hP1 8 _ rfl
  have np7 : X10P3_0 dC dI G ax (if k = 0 then N else N1) (if k = 0 then B else B1) t.heap := ⟨u2, u3, u4, u5, u6, u7, u8, (by first | omega | exact hu | exact hu.1 | exact hu.1.1 | exact hu.1.2 | exact hu.2 | exact fd_nn (by assumption) | (split at hu <;> omega) | (split <;> omega) | exact E_inv (by assumption)), (by first | omega | exact hu | exact hu.1 | exact hu.1.1 | exact hu.1.2 | exact hu.2 | exact fd_nn (by assumption) | (split at hu <;> omega) | (split <;> omega) | exact E_inv (by assumption)), (by first | omega | exact hu | exact hu.1 | exact hu.1.1 | exact hu.1.2 | exact hu.2 | exact fd_nn (by assumption) | (split at hu <;> omega) | (split <;> omega) | exact E_inv (by assumption)), hP1 10 _ rfl, hP1 11 _ rfl, hP1 12 _ rfl, hP1 13 _ rfl, hP1 14 _ rfl, hP1 15 _ rfl, hP1 16 _ rfl⟩
  have np8 : X10P3_1 dC dI G ax (if k = 1 then N else N2) (if k = 1 then B else B2) t.heap := ⟨u11, u12, u13, u14, u15, u16, u17, (by first | omega | exact hu | exact hu.1 | exact hu.1.1 | exact hu.1.2 | exact hu.2 | exact fd_nn (by assumption) | (split at hu <;> omega) | (split <;> omega) | exact E_inv (by assumption)), (by first | omega | exact hu | exact hu.1 | exact hu.1.1 | exact hu.1.2 | exact hu.2 | exact fd_nn (by assumption) | (split at hu <;> omega) | (split <;> omega) | exact E_inv (by assumption)), (by first | omega | exact hu | exact hu.1 | exact hu.1.1 | exact hu.1.2 | exact hu.2 | exact fd_nn (by assumption) | (split at hu <;> omega) | (split <;> omega) | exact E_inv (by assumption)), hP1 17 _ rfl, hP1 18 _ rfl, hP1 19 _ rfl, hP1 20 _ rfl, hP1 21 _ rfl, hP1 22 _ rfl, hP1 23 _ rfl⟩
  have np9 : X10P4 dC dI G ax (if (0 ≤ k.toInt ∧ k.toInt < 2) then upd K k.toNatClampNeg 1 else K) t.heap := hP1 9 _ rfl
  exact ⟨⟨r, (), ho, hr, ⟨np0, p1.kept (FR 1 2 (by decide) (by decide)), p2.kept (FR 2 4 (by decide) (by decide)), p3.kept (FR 4 11 (by decide) (by decide)), np4, p5.kept (FR 18 25 (by decide) (by decide)), np6, np7, np8, np9, p10.kept (FR 41 44 (by decide) (by decide)), p11.kept (FR 44 68 (by decide) (by decide)), p12.kept (FR 68 69 (by decide) (by decide)), p13.kept (FR 69 74 (by decide) (by decide)), p14.kept (FR 74 77 (by decide) (by decide)), p15.kept (FR 77 102 (by decide) (by decide)), p16.kept (FR 102 112 (by decide) (by decide)), kp_X hX⟩⟩, hF.wide (ad_ix [0, 11, 12, 13, 14, 15, 16, 17, 25, 40, 26, 27, 28, 29, 30, 31, 32, 33, 34, 35, 36, 37, 38, 39] (by rfl) (by decide))⟩

set_option maxHeartbeats 1000000 in
set_option maxRecDepth 100000 in
theorem k_X10_backE (l : Launch) (dC : Nat → ClassId) (dI : Nat → Nat → Nat) (G : Nat → ClassId) (sz : Nat) (ax : Nat → Nat) (hi : adInj 129 ax) (T : Nat) (Y : Nat → Int32) (fa : Int32) (N : Nat) (B : Nat) (N1 : Nat) (B1 : Nat) (N2 : Nat) (B2 : Nat) (K : Nat → Int32) (S : Nat) (M : Nat) (E : Nat → Int32) (Z : Nat → Int32) (k : Int32) : Met l yX10_back (Cond.code yX10_back cX10_back 2 (some .int) :: GT) ({ frames := 2, cells := 0, slots := 0, locals := 121 } : Room) (PcI [.ref (ax 0), .int k] dC dI G (X10I dC dI G ax T Y fa N B N1 B1 N2 B2 K S M E Z) sz) (va_Qi (fun (r : Int32) (_ : Unit) => r = if (0 ≤ k.toInt ∧ k.toInt < 2) then (if K k.toNatClampNeg = 0 then -2 else nI N) else -1) (fun _ t => X10I dC dI G ax T Y fa N B N1 B1 N2 B2 K S M E Z t.heap) (adX 0 112 ax sz)) 0 0 (adX 0 112 ax sz) := by
  refine Met.pick (fun a st hp => ?_)
  obtain ⟨e0, hsz, hI, hK⟩ := hp
  subst hsz
  have hI0 := hI
  unfold X10I at hI
  obtain ⟨p0, p1, p2, p3, p4, p5, p6, p7, p8, p9, p10, p11, p12, p13, p14, p15, p16, hX⟩ := hI
  unfold X10Pr at p0
  obtain ⟨zi0_13, q0⟩ := p0
  unfold X10P1 at p4
  obtain ⟨zn11_2, zf12, zf13, zf14, zf15, zf16, zf17, p4j0, p4j1, p4j2, q11, q12, q13, q14, q15, q16, q17⟩ := p4
  unfold X10P3 at p6
  have q25 := p6
  unfold X10P3_0 at p7
  obtain ⟨zn26_2, zf27, zf28, zf29, zf30, zf31, zf32, p7j0, p7j1, p7j2, q26, q27, q28, q29, q30, q31, q32⟩ := p7
  unfold X10P3_1 at p8
  obtain ⟨zn33_2, zf34, zf35, zf36, zf37, zf38, zf39, p8j0, p8j1, p8j2, q33, q34, q35, q36, q37, q38, q39⟩ := p8
  unfold X10P4 at p9
  have q40 := p9
  refine ⟨_, _, _, c_X10_backE l dC dI G _ (ax 0) (ax 1) (ax 11) (ax 18) (ax 25) (ax 40) (ax 41) (ax 44) (ax 68) (ax 69) (ax 74) (ax 77) (ax 102) (ax 12) (ax 13) (ax 14) (ax 15) (ax 16) (ax 17) N B zn11_2 (ax 26) (ax 33) (ax 27) (ax 28) (ax 29) (ax 30) (ax 31) (ax 32) (ax 34) (ax 35) (ax 36) (ax 37) (ax 38) (ax 39) N1 B1 zn26_2 N2 B2 zn33_2 fa zi0_13 k zf12 zf13 zf14 zf15 zf16 zf17 K zf27 zf28 zf29 zf30 zf31 zf32 zf34 zf35 zf36 zf37 zf38 zf39 (by assumption) (by assumption) (by assumption) (by assumption) (by assumption) (by assumption) (by assumption) (by assumption) (by assumption), ⟨e0, rfl, (vpc q0 (vpc q11 (vpc q12 (vpc q13 (vpc q14 (vpc q15 (vpc q16 (vpc q17 (vpc q25 (vpc q40 (vpc q26 (vpc q27 (vpc q28 (vpc q29 (vpc q30 (vpc q31 (vpc q32 (vpc q33 (vpc q34 (vpc q35 (vpc q36 (vpc q37 (vpc q38 (vpc q39 va_nilP)))))))))))))))))))))))), hK, vD_ix hi [0, 11, 12, 13, 14, 15, 16, 17, 25, 40, 26, 27, 28, 29, 30, 31, 32, 33, 34, 35, 36, 37, 38, 39] (by rfl) (by decide) (by decide)⟩, ad_ix [0, 11, 12, 13, 14, 15, 16, 17, 25, 40, 26, 27, 28, 29, 30, 31, 32, 33, 34, 35, 36, 37, 38, 39] (by rfl) (by decide), fun o t hq => ?_⟩
  obtain ⟨⟨r, ⟨u0, u1, u2, u3, u4, u5, u6, u7, u8⟩, ho, ⟨hr, hu⟩, hP1, -⟩, hF⟩ := hq
  have FR : ∀ lo hi' : Nat, hi' ≤ 129 → ([0, 11, 12, 13, 14, 15, 16, 17, 25, 40, 26, 27, 28, 29, 30, 31, 32, 33, 34, 35, 36, 37, 38, 39] : List Nat).all (fun x => decide (x < lo) || decide (hi' ≤ x)) = true → ∀ j : Nat, lo ≤ j → j < hi' → ax j < st.heap.size → t.heap[ax j]? = st.heap[ax j]? := fun lo hi' h1 h2 => fr_ix hi h1 hF.2 [0, 11, 12, 13, 14, 15, 16, 17, 25, 40, 26, 27, 28, 29, 30, 31, 32, 33, 34, 35, 36, 37, 38, 39] (by rfl) (by decide) h2
  have xN : N = u0 := Eq.symm (hu.2.1.trans (bk_N hX))
  subst xN
  have xB : B = u1 := Eq.symm (hu.2.2.trans (bk_B hX))
  subst xB
  replace hu := hu.1
  have np0 : X10Pr dC dI G ax fa t.heap := ⟨zi0_13, hP1 0 _ rfl⟩
  have np4 : X10P1 dC dI G ax N B t.heap := ⟨u2, u3, u4, u5, u6, u7, u8, p4j0, p4j1, (by first | omega | exact hu | exact hu.1 | exact hu.1.1 | exact hu.1.2 | exact hu.2 | exact fd_nn (by assumption) | (split at hu <;> omega) | (split <;> omega) | exact E_inv (by assumption)), hP1 1 _ rfl, hP1 2 _ rfl, hP1 3 _ rfl, hP1 4 _ rfl, hP1 5 _ rfl, hP1 6 _ rfl, hP1 7 _ rfl⟩
  have np6 : X10P3 dC dI G ax t.heap := hP1 8 _ rfl
  have np7 : X10P3_0 dC dI G ax N1 B1 t.heap := ⟨zn26_2, zf27, zf28, zf29, zf30, zf31, zf32, p7j0, p7j1, p7j2, hP1 10 _ rfl, hP1 11 _ rfl, hP1 12 _ rfl, hP1 13 _ rfl, hP1 14 _ rfl, hP1 15 _ rfl, hP1 16 _ rfl⟩
  have np8 : X10P3_1 dC dI G ax N2 B2 t.heap := ⟨zn33_2, zf34, zf35, zf36, zf37, zf38, zf39, p8j0, p8j1, p8j2, hP1 17 _ rfl, hP1 18 _ rfl, hP1 19 _ rfl, hP1 20 _ rfl, hP1 21 _ rfl, hP1 22 _ rfl, hP1 23 _ rfl⟩
  have np9 : X10P4 dC dI G ax K t.heap := hP1 9 _ rfl
  exact ⟨⟨r, (), ho, hr.trans (bk_eq hX), ⟨np0, p1.kept (FR 1 2 (by decide) (by decide)), p2.kept (FR 2 4 (by decide) (by decide)), p3.kept (FR 4 11 (by decide) (by decide)), np4, p5.kept (FR 18 25 (by decide) (by decide)), np6, np7, np8, np9, p10.kept (FR 41 44 (by decide) (by decide)), p11.kept (FR 44 68 (by decide) (by decide)), p12.kept (FR 68 69 (by decide) (by decide)), p13.kept (FR 69 74 (by decide) (by decide)), p14.kept (FR 74 77 (by decide) (by decide)), p15.kept (FR 77 102 (by decide) (by decide)), p16.kept (FR 102 112 (by decide) (by decide)), hX⟩⟩, hF.wide (ad_ix [0, 11, 12, 13, 14, 15, 16, 17, 25, 40, 26, 27, 28, 29, 30, 31, 32, 33, 34, 35, 36, 37, 38, 39] (by rfl) (by decide))⟩

set_option maxHeartbeats 1000000 in
set_option maxRecDepth 100000 in
theorem k_X10_sheet (l : Launch) (dC : Nat → ClassId) (dI : Nat → Nat → Nat) (G : Nat → ClassId) (sz : Nat) (ax : Nat → Nat) (hi : adInj 129 ax) (T : Nat) (Y : Nat → Int32) (fa : Int32) (N : Nat) (B : Nat) (N1 : Nat) (B1 : Nat) (N2 : Nat) (B2 : Nat) (K : Nat → Int32) (S : Nat) (M : Nat) (E : Nat → Int32) (Z : Nat → Int32) (k : Int32) (lane : Int32) (n : Int32) : Met l yX10_sheet (Cond.code yX10_sheet cX10_sheet 4 (some .int) :: GT) ({ frames := 2, cells := 0, slots := 0, locals := 44 } : Room) (PcI [.ref (ax 0), .int k, .int lane, .int n] dC dI G (X10I dC dI G ax T Y fa N B N1 B1 N2 B2 K S M E Z) sz) (va_Qi (fun (r : Int32) (_ : Unit) => r = if (0 ≤ k.toInt ∧ k.toInt < 4) ∧ (0 ≤ lane.toInt ∧ lane.toInt ≤ 2) ∧ n.toInt ≤ 40 then (if n.toInt < 0 then -14 else 1) else -1) (fun _ t => X10I dC dI G ax T Y fa N B N1 B1 N2 B2 K S M (if ((0 ≤ k.toInt ∧ k.toInt < 4) ∧ (0 ≤ lane.toInt ∧ lane.toInt ≤ 2) ∧ n.toInt ≤ 40 ∧ 0 ≤ n.toInt) then upd E k.toNatClampNeg lane else E) (if ((0 ≤ k.toInt ∧ k.toInt < 4) ∧ (0 ≤ lane.toInt ∧ lane.toInt ≤ 2) ∧ n.toInt ≤ 40 ∧ 0 ≤ n.toInt) then upd Z k.toNatClampNeg n else Z) t.heap) (adX 0 112 ax sz)) 0 0 (adX 0 112 ax sz) := by
  refine Met.pick (fun a st hp => ?_)
  obtain ⟨e0, hsz, hI, hK⟩ := hp
  subst hsz
  have hI0 := hI
  unfold X10I at hI
  obtain ⟨p0, p1, p2, p3, p4, p5, p6, p7, p8, p9, p10, p11, p12, p13, p14, p15, p16, hX⟩ := hI
  unfold X10Pr at p0
  obtain ⟨zi0_13, q0⟩ := p0
  unfold X10P11 at p16
  obtain ⟨zi102_3, zi102_4, zf106, zf107, zF108, p16j0, p16j1, q102, q103, q104, q105, q106, q107, q108⟩ := p16
  refine ⟨_, _, _, c_X10_sheet l dC dI G _ (ax 0) (ax 1) (ax 11) (ax 18) (ax 25) (ax 40) (ax 41) (ax 44) (ax 68) (ax 69) (ax 74) (ax 77) (ax 102) (ax 103) (ax 104) (ax 105) (ax 106) (ax 107) fa zi0_13 k lane n zi102_3 zi102_4 E Z (fun iq => ax (108 + iq)) zF108 (by assumption), ⟨e0, rfl, (va_P.app (vpc q0 (vpc q102 (vpc q103 (vpc q104 (vpc q105 va_nilP))))) (va_P.app q108 va_nilP)), hK, vD_ix hi [0, 102, 103, 104, 105, 108, 109, 110, 111] (by rfl) (by decide) (by decide)⟩, ad_ix [0, 102, 103, 104, 105, 108, 109, 110, 111] (by rfl) (by decide), fun o t hq => ?_⟩
  obtain ⟨⟨r, ⟨u0, u1, u2⟩, ho, ⟨hr, hu⟩, hP1, -⟩, hF⟩ := hq
  have FR : ∀ lo hi' : Nat, hi' ≤ 129 → ([0, 102, 103, 104, 105, 108, 109, 110, 111] : List Nat).all (fun x => decide (x < lo) || decide (hi' ≤ x)) = true → ∀ j : Nat, lo ≤ j → j < hi' → ax j < st.heap.size → t.heap[ax j]? = st.heap[ax j]? := fun lo hi' h1 h2 => fr_ix hi h1 hF.2 [0, 102, 103, 104, 105, 108, 109, 110, 111] (by rfl) (by decide) h2
  have y103 : (if ((0 ≤ k.toInt ∧ k.toInt < 4) ∧ (0 ≤ lane.toInt ∧ lane.toInt ≤ 2) ∧ n.toInt ≤ 40 ∧ 0 ≤ n.toInt) then upd E k.toNatClampNeg lane else E) = u0 := Eq.symm (by first | exact hu | exact hu.1 | exact hu.2 | exact hu.1.1 | exact hu.1.2 | exact hu.2.1.trans (txt_cf (by assumption)) | exact hu.2.1.trans (txt_rf (by assumption)) | exact hu.1.1.trans lmap_step | omega)
  subst y103
  have y104 : (if ((0 ≤ k.toInt ∧ k.toInt < 4) ∧ (0 ≤ lane.toInt ∧ lane.toInt ≤ 2) ∧ n.toInt ≤ 40 ∧ 0 ≤ n.toInt) then upd Z k.toNatClampNeg n else Z) = u1 := Eq.symm (by first | exact hu | exact hu.1 | exact hu.2 | exact hu.1.1 | exact hu.1.2 | exact hu.2.1.trans (txt_cf (by assumption)) | exact hu.2.1.trans (txt_rf (by assumption)) | exact hu.1.1.trans lmap_step | omega)
  subst y104
  have np0 : X10Pr dC dI G ax fa t.heap := ⟨zi0_13, hP1 0 _ rfl⟩
  have np16 : X10P11 dC dI G ax (if ((0 ≤ k.toInt ∧ k.toInt < 4) ∧ (0 ≤ lane.toInt ∧ lane.toInt ≤ 2) ∧ n.toInt ≤ 40 ∧ 0 ≤ n.toInt) then upd E k.toNatClampNeg lane else E) (if ((0 ≤ k.toInt ∧ k.toInt < 4) ∧ (0 ≤ lane.toInt ∧ lane.toInt ≤ 2) ∧ n.toInt ≤ 40 ∧ 0 ≤ n.toInt) then upd Z k.toNatClampNeg n else Z) t.heap := ⟨zi102_3, zi102_4, zf106, zf107, u2, (by first | omega | exact hu | exact hu.1 | exact hu.1.1 | exact hu.1.2 | exact hu.2 | exact fd_nn (by assumption) | (split at hu <;> omega) | (split <;> omega) | exact E_inv (by assumption)), (by first | omega | exact hu | exact hu.1 | exact hu.1.1 | exact hu.1.2 | exact hu.2 | exact fd_nn (by assumption) | (split at hu <;> omega) | (split <;> omega) | exact E_inv (by assumption)), hP1 1 _ rfl, hP1 2 _ rfl, hP1 3 _ rfl, hP1 4 _ rfl, q106.kept (FR 106 107 (by decide) (by decide) 106 (by decide) (by decide) q106.lt), q107.kept (FR 107 108 (by decide) (by decide) 107 (by decide) (by decide) q107.lt), vp_mid hP1⟩
  exact ⟨⟨r, (), ho, hr, ⟨np0, p1.kept (FR 1 2 (by decide) (by decide)), p2.kept (FR 2 4 (by decide) (by decide)), p3.kept (FR 4 11 (by decide) (by decide)), p4.kept (FR 11 18 (by decide) (by decide)), p5.kept (FR 18 25 (by decide) (by decide)), p6.kept (FR 25 26 (by decide) (by decide)), p7.kept (FR 26 33 (by decide) (by decide)), p8.kept (FR 33 40 (by decide) (by decide)), p9.kept (FR 40 41 (by decide) (by decide)), p10.kept (FR 41 44 (by decide) (by decide)), p11.kept (FR 44 68 (by decide) (by decide)), p12.kept (FR 68 69 (by decide) (by decide)), p13.kept (FR 69 74 (by decide) (by decide)), p14.kept (FR 74 77 (by decide) (by decide)), p15.kept (FR 77 102 (by decide) (by decide)), np16, hX⟩⟩, hF.wide (ad_ix [0, 102, 103, 104, 105, 108, 109, 110, 111] (by rfl) (by decide))⟩

set_option maxHeartbeats 1000000 in
set_option maxRecDepth 100000 in
theorem k_X10_lay (l : Launch) (dC : Nat → ClassId) (dI : Nat → Nat → Nat) (G : Nat → ClassId) (sz : Nat) (ax : Nat → Nat) (hi : adInj 129 ax) (T : Nat) (Y : Nat → Int32) (fa : Int32) (N : Nat) (B : Nat) (N1 : Nat) (B1 : Nat) (N2 : Nat) (B2 : Nat) (K : Nat → Int32) (S : Nat) (M : Nat) (E : Nat → Int32) (Z : Nat → Int32) (k : Int32) (i : Int32) (v : Int32) : Met l yX10_lay (Cond.code yX10_lay cX10_lay 5 (some .int) :: GT) ({ frames := 2, cells := 0, slots := 0, locals := 46 } : Room) (PcI [.ref (ax 0), .int k, .int i, .int v] dC dI G (X10I dC dI G ax T Y fa N B N1 B1 N2 B2 K S M E Z) sz) (va_Qi (fun (r : Int32) (_ : Unit) => r = if 0 ≤ k.toInt ∧ k.toInt < 4 then (if E k.toNatClampNeg = -1 then -11 else if 0 ≤ i.toInt ∧ i.toInt < (Z k.toNatClampNeg).toInt then 1 else -12) else -1) (fun _ t => X10I dC dI G ax T Y fa N B N1 B1 N2 B2 K S M E Z t.heap) (adX 0 112 ax sz)) 0 0 (adX 0 112 ax sz) := by
  refine Met.pick (fun a st hp => ?_)
  obtain ⟨e0, hsz, hI, hK⟩ := hp
  subst hsz
  have hI0 := hI
  unfold X10I at hI
  obtain ⟨p0, p1, p2, p3, p4, p5, p6, p7, p8, p9, p10, p11, p12, p13, p14, p15, p16, hX⟩ := hI
  unfold X10Pr at p0
  obtain ⟨zi0_13, q0⟩ := p0
  unfold X10P11 at p16
  obtain ⟨zi102_3, zi102_4, zf106, zf107, zF108, p16j0, p16j1, q102, q103, q104, q105, q106, q107, q108⟩ := p16
  refine ⟨_, _, _, c_X10_lay l dC dI G _ (ax 0) (ax 1) (ax 11) (ax 18) (ax 25) (ax 40) (ax 41) (ax 44) (ax 68) (ax 69) (ax 74) (ax 77) (ax 102) (ax 103) (ax 104) (ax 105) (ax 106) (ax 107) fa zi0_13 k i v zi102_3 zi102_4 E Z (fun iq => ax (108 + iq)) zF108 (by assumption), ⟨e0, rfl, (va_P.app (vpc q0 (vpc q102 (vpc q103 (vpc q104 (vpc q105 va_nilP))))) (va_P.app q108 va_nilP)), hK, vD_ix hi [0, 102, 103, 104, 105, 108, 109, 110, 111] (by rfl) (by decide) (by decide)⟩, ad_ix [0, 102, 103, 104, 105, 108, 109, 110, 111] (by rfl) (by decide), fun o t hq => ?_⟩
  obtain ⟨⟨r, u0, ho, ⟨hr, hu⟩, hP1, -⟩, hF⟩ := hq
  have FR : ∀ lo hi' : Nat, hi' ≤ 129 → ([0, 102, 103, 104, 105, 108, 109, 110, 111] : List Nat).all (fun x => decide (x < lo) || decide (hi' ≤ x)) = true → ∀ j : Nat, lo ≤ j → j < hi' → ax j < st.heap.size → t.heap[ax j]? = st.heap[ax j]? := fun lo hi' h1 h2 => fr_ix hi h1 hF.2 [0, 102, 103, 104, 105, 108, 109, 110, 111] (by rfl) (by decide) h2
  have np0 : X10Pr dC dI G ax fa t.heap := ⟨zi0_13, hP1 0 _ rfl⟩
  have np16 : X10P11 dC dI G ax E Z t.heap := ⟨zi102_3, zi102_4, zf106, zf107, u0, p16j0, p16j1, hP1 1 _ rfl, hP1 2 _ rfl, hP1 3 _ rfl, hP1 4 _ rfl, q106.kept (FR 106 107 (by decide) (by decide) 106 (by decide) (by decide) q106.lt), q107.kept (FR 107 108 (by decide) (by decide) 107 (by decide) (by decide) q107.lt), vp_mid hP1⟩
  exact ⟨⟨r, (), ho, hr, ⟨np0, p1.kept (FR 1 2 (by decide) (by decide)), p2.kept (FR 2 4 (by decide) (by decide)), p3.kept (FR 4 11 (by decide) (by decide)), p4.kept (FR 11 18 (by decide) (by decide)), p5.kept (FR 18 25 (by decide) (by decide)), p6.kept (FR 25 26 (by decide) (by decide)), p7.kept (FR 26 33 (by decide) (by decide)), p8.kept (FR 33 40 (by decide) (by decide)), p9.kept (FR 40 41 (by decide) (by decide)), p10.kept (FR 41 44 (by decide) (by decide)), p11.kept (FR 44 68 (by decide) (by decide)), p12.kept (FR 68 69 (by decide) (by decide)), p13.kept (FR 69 74 (by decide) (by decide)), p14.kept (FR 74 77 (by decide) (by decide)), p15.kept (FR 77 102 (by decide) (by decide)), np16, hX⟩⟩, hF.wide (ad_ix [0, 102, 103, 104, 105, 108, 109, 110, 111] (by rfl) (by decide))⟩

set_option maxHeartbeats 1000000 in
set_option maxRecDepth 100000 in
theorem k_X10_read (l : Launch) (dC : Nat → ClassId) (dI : Nat → Nat → Nat) (G : Nat → ClassId) (sz : Nat) (ax : Nat → Nat) (hi : adInj 129 ax) (T : Nat) (Y : Nat → Int32) (fa : Int32) (N : Nat) (B : Nat) (N1 : Nat) (B1 : Nat) (N2 : Nat) (B2 : Nat) (K : Nat → Int32) (S : Nat) (M : Nat) (E : Nat → Int32) (Z : Nat → Int32) (k : Int32) (lane : Int32) (x1 : Int32) (n : Int32) : Met l yX10_read (Cond.code yX10_read cX10_read 6 (some .int) :: GT) ({ frames := 2, cells := 0, slots := 0, locals := 50 } : Room) (PcI [.ref (ax 0), .int k, .int lane, .int x1, .int n] dC dI G (X10I dC dI G ax T Y fa N B N1 B1 N2 B2 K S M E Z) sz) (va_Qi (fun (r : Int32) (_ : Unit) => True) (fun _ t => X10I dC dI G ax T Y fa N B N1 B1 N2 B2 K S M E Z t.heap) (adX 0 112 ax sz)) 0 0 (adX 0 112 ax sz) := by
  refine Met.pick (fun a st hp => ?_)
  obtain ⟨e0, hsz, hI, hK⟩ := hp
  subst hsz
  have hI0 := hI
  unfold X10I at hI
  obtain ⟨p0, p1, p2, p3, p4, p5, p6, p7, p8, p9, p10, p11, p12, p13, p14, p15, p16, hX⟩ := hI
  unfold X10Pr at p0
  obtain ⟨zi0_13, q0⟩ := p0
  unfold X10P1 at p4
  obtain ⟨zn11_2, zf12, zf13, zf14, zf15, zf16, zf17, p4j0, p4j1, p4j2, q11, q12, q13, q14, q15, q16, q17⟩ := p4
  unfold X10P11 at p16
  obtain ⟨zi102_3, zi102_4, zf106, zf107, zF108, p16j0, p16j1, q102, q103, q104, q105, q106, q107, q108⟩ := p16
  refine ⟨_, _, _, c_X10_read l dC dI G _ (ax 0) (ax 1) (ax 11) (ax 18) (ax 25) (ax 40) (ax 41) (ax 44) (ax 68) (ax 69) (ax 74) (ax 77) (ax 102) (ax 12) (ax 13) (ax 14) (ax 15) (ax 16) (ax 17) N B zn11_2 (ax 103) (ax 104) (ax 105) (ax 106) (ax 107) fa zi0_13 k lane x1 n zi102_3 zi102_4 zf14 E Z zf106 zf107 (fun iq => ax (108 + iq)) zF108 (by assumption) (by assumption) (by assumption) (by assumption), ⟨e0, rfl, (va_P.app (vpc q0 (vpc q11 (vpc q14 (vpc q102 (vpc q103 (vpc q104 (vpc q105 (vpc q106 (vpc q107 va_nilP))))))))) (va_P.app q108 va_nilP)), hK, vD_ix hi [0, 11, 14, 102, 103, 104, 105, 106, 107, 108, 109, 110, 111] (by rfl) (by decide) (by decide)⟩, ad_ix [0, 11, 14, 102, 103, 104, 105, 106, 107, 108, 109, 110, 111] (by rfl) (by decide), fun o t hq => ?_⟩
  obtain ⟨⟨r, ⟨u0, u1, u2, u3, u4, u5⟩, ho, ⟨hr, hu⟩, hP1, -⟩, hF⟩ := hq
  have FR : ∀ lo hi' : Nat, hi' ≤ 129 → ([0, 11, 14, 102, 103, 104, 105, 106, 107, 108, 109, 110, 111] : List Nat).all (fun x => decide (x < lo) || decide (hi' ≤ x)) = true → ∀ j : Nat, lo ≤ j → j < hi' → ax j < st.heap.size → t.heap[ax j]? = st.heap[ax j]? := fun lo hi' h1 h2 => fr_ix hi h1 hF.2 [0, 11, 14, 102, 103, 104, 105, 106, 107, 108, 109, 110, 111] (by rfl) (by decide) h2
  have np0 : X10Pr dC dI G ax fa t.heap := ⟨u5, hP1 0 _ rfl⟩
  have np4 : X10P1 dC dI G ax N B t.heap := ⟨zn11_2, zf12, zf13, u4, zf15, zf16, zf17, p4j0, p4j1, p4j2, hP1 1 _ rfl, q12.kept (FR 12 13 (by decide) (by decide) 12 (by decide) (by decide) q12.lt), q13.kept (FR 13 14 (by decide) (by decide) 13 (by decide) (by decide) q13.lt), hP1 2 _ rfl, q15.kept (FR 15 16 (by decide) (by decide) 15 (by decide) (by decide) q15.lt), q16.kept (FR 16 17 (by decide) (by decide) 16 (by decide) (by decide) q16.lt), q17.kept (FR 17 18 (by decide) (by decide) 17 (by decide) (by decide) q17.lt)⟩
  have np16 : X10P11 dC dI G ax E Z t.heap := ⟨u0, u1, u2, u3, zF108, p16j0, p16j1, hP1 3 _ rfl, hP1 4 _ rfl, hP1 5 _ rfl, hP1 6 _ rfl, hP1 7 _ rfl, hP1 8 _ rfl, vp_mid hP1⟩
  exact ⟨⟨r, (), ho, trivial, ⟨np0, p1.kept (FR 1 2 (by decide) (by decide)), p2.kept (FR 2 4 (by decide) (by decide)), p3.kept (FR 4 11 (by decide) (by decide)), np4, p5.kept (FR 18 25 (by decide) (by decide)), p6.kept (FR 25 26 (by decide) (by decide)), p7.kept (FR 26 33 (by decide) (by decide)), p8.kept (FR 33 40 (by decide) (by decide)), p9.kept (FR 40 41 (by decide) (by decide)), p10.kept (FR 41 44 (by decide) (by decide)), p11.kept (FR 44 68 (by decide) (by decide)), p12.kept (FR 68 69 (by decide) (by decide)), p13.kept (FR 69 74 (by decide) (by decide)), p14.kept (FR 74 77 (by decide) (by decide)), p15.kept (FR 77 102 (by decide) (by decide)), np16, hX⟩⟩, hF.wide (ad_ix [0, 11, 14, 102, 103, 104, 105, 106, 107, 108, 109, 110, 111] (by rfl) (by decide))⟩

set_option maxHeartbeats 1000000 in
set_option maxRecDepth 100000 in
theorem k_X10_torn (l : Launch) (dC : Nat → ClassId) (dI : Nat → Nat → Nat) (G : Nat → ClassId) (sz : Nat) (ax : Nat → Nat) (hi : adInj 129 ax) (T : Nat) (Y : Nat → Int32) (fa : Int32) (N : Nat) (B : Nat) (N1 : Nat) (B1 : Nat) (N2 : Nat) (B2 : Nat) (K : Nat → Int32) (S : Nat) (M : Nat) (E : Nat → Int32) (Z : Nat → Int32) : Met l yX10_torn (Cond.code yX10_torn cX10_torn 1 (some .int) :: GT) ({ frames := 0, cells := 0, slots := 0, locals := 0 } : Room) (PcI [.ref (ax 0)] dC dI G (X10I dC dI G ax T Y fa N B N1 B1 N2 B2 K S M E Z) sz) (va_Qi (fun (r : Int32) (_ : Unit) => True) (fun _ t => X10I dC dI G ax T Y fa N B N1 B1 N2 B2 K S M E Z t.heap) (adX 0 112 ax sz)) 0 0 (adX 0 112 ax sz) := by
  refine Met.pick (fun a st hp => ?_)
  obtain ⟨e0, hsz, hI, hK⟩ := hp
  subst hsz
  have hI0 := hI
  unfold X10I at hI
  obtain ⟨p0, p1, p2, p3, p4, p5, p6, p7, p8, p9, p10, p11, p12, p13, p14, p15, p16, hX⟩ := hI
  unfold X10Pr at p0
  obtain ⟨zi0_13, q0⟩ := p0
  refine ⟨_, _, _, c_X10_torn l dC dI G _ (ax 0) (ax 1) (ax 11) (ax 18) (ax 25) (ax 40) (ax 41) (ax 44) (ax 68) (ax 69) (ax 74) (ax 77) (ax 102) fa zi0_13 , ⟨e0, rfl, (vpc q0 va_nilP), hK⟩, fun q h => Or.inr h, fun o t hq => ?_⟩
  obtain ⟨⟨r, u, ho, ⟨hr, hu⟩, -⟩, hF⟩ := hq
  exact ⟨⟨r, (), ho, trivial, hI0.kept (fun j _ _ h => hF.2 _ h (Nat.not_le.mpr h))⟩, hF.wide (fun q h => Or.inr h)⟩

set_option maxHeartbeats 1000000 in
set_option maxRecDepth 100000 in
theorem k_X10_count (l : Launch) (dC : Nat → ClassId) (dI : Nat → Nat → Nat) (G : Nat → ClassId) (sz : Nat) (ax : Nat → Nat) (hi : adInj 129 ax) (T : Nat) (Y : Nat → Int32) (fa : Int32) (N : Nat) (B : Nat) (N1 : Nat) (B1 : Nat) (N2 : Nat) (B2 : Nat) (K : Nat → Int32) (S : Nat) (M : Nat) (E : Nat → Int32) (Z : Nat → Int32) (what : Int32) : Met l yX10_count (Cond.code yX10_count cX10_count 2 (some .int) :: GT) ({ frames := 1, cells := 0, slots := 0, locals := 22 } : Room) (PcI [.ref (ax 0), .int what] dC dI G (X10I dC dI G ax T Y fa N B N1 B1 N2 B2 K S M E Z) sz) (va_Qi (fun (r : Int32) (_ : Unit) => True) (fun _ t => X10I dC dI G ax T Y fa N B N1 B1 N2 B2 K S M E Z t.heap) (adX 0 112 ax sz)) 0 0 (adX 0 112 ax sz) := by
  refine Met.pick (fun a st hp => ?_)
  obtain ⟨e0, hsz, hI, hK⟩ := hp
  subst hsz
  have hI0 := hI
  unfold X10I at hI
  obtain ⟨p0, p1, p2, p3, p4, p5, p6, p7, p8, p9, p10, p11, p12, p13, p14, p15, p16, hX⟩ := hI
  unfold X10Pr at p0
  obtain ⟨zi0_13, q0⟩ := p0
  unfold X10P0 at p1
  obtain ⟨zi1_2, zi1_3, zi1_4, zi1_5, zi1_6, zi1_7, zi1_8, zi1_9, zi1_10, zi1_11, q1⟩ := p1
  unfold X10P0_0 at p2
  obtain ⟨p2j0, q2, q3⟩ := p2
  unfold X10P1 at p4
  obtain ⟨zn11_2, zf12, zf13, zf14, zf15, zf16, zf17, p4j0, p4j1, p4j2, q11, q12, q13, q14, q15, q16, q17⟩ := p4
  unfold X10P4 at p9
  have q40 := p9
  unfold X10P8 at p13
  obtain ⟨zf70, zf71, zf72, zf73, p13j0, q69, q70, q71, q72, q73⟩ := p13
  unfold X10P9 at p14
  obtain ⟨zf75, zf76, p14j0, q74, q75, q76⟩ := p14
  unfold X10P11 at p16
  obtain ⟨zi102_3, zi102_4, zf106, zf107, zF108, p16j0, p16j1, q102, q103, q104, q105, q106, q107, q108⟩ := p16
  refine ⟨_, _, _, c_X10_count l dC dI G _ (ax 0) (ax 1) (ax 11) (ax 18) (ax 25) (ax 40) (ax 41) (ax 44) (ax 68) (ax 69) (ax 74) (ax 77) (ax 102) (ax 70) (ax 71) (ax 72) (ax 73) (ax 75) (ax 76) S M (ax 2) (ax 4) (ax 3) T (ax 12) (ax 13) (ax 14) (ax 15) (ax 16) (ax 17) N B zn11_2 (ax 103) (ax 104) (ax 105) (ax 106) (ax 107) fa zi0_13 what zi1_2 zi1_3 zi1_4 zi1_5 zi1_6 zi1_7 zi1_8 zi1_9 zi1_10 zi1_11 zi102_3 zi102_4 K zf14 E Z (by assumption) (by assumption) (by assumption) (by assumption) (by assumption) (by assumption), ⟨e0, rfl, (vpc q0 (vpc q69 (vpc q74 (vpc q40 (vpc q1 (vpc q2 (vpc q11 (vpc q14 (vpc q102 (vpc q103 (vpc q104 va_nilP))))))))))), hK⟩, fun q h => Or.inr h, fun o t hq => ?_⟩
  obtain ⟨⟨r, u, ho, ⟨hr, hu⟩, -⟩, hF⟩ := hq
  exact ⟨⟨r, (), ho, trivial, hI0.kept (fun j _ _ h => hF.2 _ h (Nat.not_le.mpr h))⟩, hF.wide (fun q h => Or.inr h)⟩
