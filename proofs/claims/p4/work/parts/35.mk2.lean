set_option maxHeartbeats 1000000 in
set_option maxRecDepth 100000 in
theorem k_X11_harm (l : Launch) (dC : Nat → ClassId) (dI : Nat → Nat → Nat) (G : Nat → ClassId) (sz : Nat) (ax : Nat → Nat) (hi : adInj 129 ax) (T : Nat) (Y : Nat → Int32) (fa : Int32) (N : Nat) (B : Nat) (N1 : Nat) (B1 : Nat) (N2 : Nat) (B2 : Nat) (K : Nat → Int32) (S : Nat) (M : Nat) (E : Nat → Int32) (Z : Nat → Int32) (i : Int32) (g : Int32) (k : Int32) : Met l yX11_harm (Cond.code yX11_harm cX11_harm 4 (some .int) :: GT) ({ frames := 3, cells := 0, slots := 0, locals := 69 } : Room) (PcI [.ref (ax 112), .int i, .int g, .int k] dC dI G (X11I dC dI G ax T Y fa N B N1 B1 N2 B2 K S M E Z) sz) (va_Qi (fun (r : Int32) (_ : Unit) => True) (fun _ t => X11I dC dI G ax T Y fa N B N1 B1 N2 B2 K S M E Z t.heap) (adX 112 129 ax sz)) 0 0 (adX 112 129 ax sz) := by
  refine Met.pick (fun a st hp => ?_)
  obtain ⟨e0, hsz, hI, hK⟩ := hp
  subst hsz
  have hI0 := hI
  unfold X11I at hI
  obtain ⟨p0, p1, p2, p3, p4, p5, p6, p7, p8, p9, p10, p11, p12, p13, p14, p15, p16⟩ := hI
  unfold X11Pr at p0
  obtain ⟨zi112_4, zi112_5, zi112_6, zi112_7, zi112_8, zi112_9, zi112_13, zi112_14, zi112_15, zn112_16, zi112_17, zi112_18, zi112_34, p0j0, p0j1, p0j2, p0j3, p0j4, p0j5, p0j6, q112⟩ := p0
  unfold X11P0 at p1
  obtain ⟨zf113, p1j0, q113⟩ := p1
  refine ⟨_, _, _, c_X11_harm l dC dI G _ (ax 112) (ax 113) N B (ax 114) (ax 115) T (ax 116) (ax 117) (ax 118) (ax 119) (ax 120) (ax 121) S (ax 122) M (ax 123) (ax 124) (ax 125) (ax 126) (ax 127) (ax 128) i g k zi112_4 zi112_5 zi112_6 zi112_7 zi112_8 zi112_9 fa zi112_13 zi112_14 zi112_15 (nI zn112_16) zi112_17 zi112_18 zi112_34 zf113 (by assumption) (by assumption) (by assumption) (by assumption) (by assumption), ⟨e0, rfl, (vpc q112 (vpc q113 va_nilP)), hK⟩, fun q h => Or.inr h, fun o t hq => ?_⟩
  obtain ⟨⟨r, u, ho, ⟨hr, hu⟩, -⟩, hF⟩ := hq
  exact ⟨⟨r, (), ho, trivial, hI0.kept (fun j _ _ h => hF.2 _ h (Nat.not_le.mpr h))⟩, hF.wide (fun q h => Or.inr h)⟩

set_option maxHeartbeats 1000000 in
set_option maxRecDepth 100000 in
theorem k_X11_wakes (l : Launch) (dC : Nat → ClassId) (dI : Nat → Nat → Nat) (G : Nat → ClassId) (sz : Nat) (ax : Nat → Nat) (hi : adInj 129 ax) (T : Nat) (Y : Nat → Int32) (fa : Int32) (N : Nat) (B : Nat) (N1 : Nat) (B1 : Nat) (N2 : Nat) (B2 : Nat) (K : Nat → Int32) (S : Nat) (M : Nat) (E : Nat → Int32) (Z : Nat → Int32) (what : Int32) : Met l yX11_wakes (Cond.code yX11_wakes cX11_wakes 2 (some .long) :: GT) ({ frames := 4, cells := 0, slots := 0, locals := 99 } : Room) (PcI [.ref (ax 112), .int what] dC dI G (X11I dC dI G ax T Y fa N B N1 B1 N2 B2 K S M E Z) sz) (va_Ql (fun (r : Int64) (_ : Unit) => True) (fun _ t => X11I dC dI G ax T Y fa N B N1 B1 N2 B2 K S M E Z t.heap) (adX 112 129 ax sz)) 0 0 (adX 112 129 ax sz) := by
  refine Met.pick (fun a st hp => ?_)
  obtain ⟨e0, hsz, hI, hK⟩ := hp
  subst hsz
  have hI0 := hI
  unfold X11I at hI
  obtain ⟨p0, p1, p2, p3, p4, p5, p6, p7, p8, p9, p10, p11, p12, p13, p14, p15, p16⟩ := hI
  unfold X11Pr at p0
  obtain ⟨zi112_4, zi112_5, zi112_6, zi112_7, zi112_8, zi112_9, zi112_13, zi112_14, zi112_15, zn112_16, zi112_17, zi112_18, zi112_34, p0j0, p0j1, p0j2, p0j3, p0j4, p0j5, p0j6, q112⟩ := p0
  unfold X11P0 at p1
  obtain ⟨zf113, p1j0, q113⟩ := p1
  unfold X11P21 at p6
  obtain ⟨zf118, q118⟩ := p6
  unfold X11P22 at p7
  obtain ⟨zf119, q119⟩ := p7
  refine ⟨_, _, _, c_X11_wakes l dC dI G _ (ax 112) (ax 113) N B (ax 114) (ax 115) T (ax 116) (ax 117) (ax 118) (ax 119) (ax 120) (ax 121) S (ax 122) M (ax 123) (ax 124) (ax 125) (ax 126) (ax 127) (ax 128) what zi112_4 zi112_5 zi112_6 zi112_7 zi112_8 zi112_9 fa zi112_13 zi112_14 zi112_15 (nI zn112_16) zi112_17 zi112_18 zi112_34 zf113 zf118 zf119 (by assumption) (by assumption) (by assumption) (by assumption) (by assumption) (by assumption), ⟨e0, rfl, (vpc q112 (vpc q113 (vpc q118 (vpc q119 va_nilP)))), hK, vD_ix hi [112, 113, 118, 119] (by rfl) (by decide) (by decide)⟩, ad_ix [112, 113, 118, 119] (by rfl) (by decide), fun o t hq => ?_⟩
  obtain ⟨⟨r, ⟨ood, oth⟩, ho, ⟨hr, hu⟩, hP1, -⟩, hF⟩ := hq
  have FR : ∀ lo hi' : Nat, hi' ≤ 129 → ([112, 113, 118, 119] : List Nat).all (fun x => decide (x < lo) || decide (hi' ≤ x)) = true → ∀ j : Nat, lo ≤ j → j < hi' → ax j < st.heap.size → t.heap[ax j]? = st.heap[ax j]? := fun lo hi' h1 h2 => fr_ix hi h1 hF.2 [112, 113, 118, 119] (by rfl) (by decide) h2
  have np0 : X11Pr dC dI G ax N B T fa S M t.heap := ⟨zi112_4, zi112_5, zi112_6, zi112_7, zi112_8, zi112_9, zi112_13, zi112_14, zi112_15, zn112_16, zi112_17, zi112_18, zi112_34, p0j0, p0j1, p0j2, p0j3, p0j4, p0j5, p0j6, hP1 0 _ rfl⟩
  have np1 : X11P0 dC dI G ax t.heap := ⟨zf113, p1j0, hP1 1 _ rfl⟩
  have np6 : X11P21 dC dI G ax t.heap := ⟨ood, hP1 2 _ rfl⟩
  have np7 : X11P22 dC dI G ax t.heap := ⟨oth, hP1 3 _ rfl⟩
  exact ⟨⟨r, (), ho, trivial, ⟨np0, np1, p2.kept (FR 114 115 (by decide) (by decide)), p3.kept (FR 115 116 (by decide) (by decide)), p4.kept (FR 116 117 (by decide) (by decide)), p5.kept (FR 117 118 (by decide) (by decide)), np6, np7, p8.kept (FR 120 121 (by decide) (by decide)), p9.kept (FR 121 122 (by decide) (by decide)), p10.kept (FR 122 123 (by decide) (by decide)), p11.kept (FR 123 124 (by decide) (by decide)), p12.kept (FR 124 125 (by decide) (by decide)), p13.kept (FR 125 126 (by decide) (by decide)), p14.kept (FR 126 127 (by decide) (by decide)), p15.kept (FR 127 128 (by decide) (by decide)), p16.kept (FR 128 129 (by decide) (by decide))⟩⟩, hF.wide (ad_ix [112, 113, 118, 119] (by rfl) (by decide))⟩

set_option maxHeartbeats 1000000 in
set_option maxRecDepth 100000 in
theorem k_X11_awake (l : Launch) (dC : Nat → ClassId) (dI : Nat → Nat → Nat) (G : Nat → ClassId) (sz : Nat) (ax : Nat → Nat) (hi : adInj 129 ax) (T : Nat) (Y : Nat → Int32) (fa : Int32) (N : Nat) (B : Nat) (N1 : Nat) (B1 : Nat) (N2 : Nat) (B2 : Nat) (K : Nat → Int32) (S : Nat) (M : Nat) (E : Nat → Int32) (Z : Nat → Int32) (i : Int32) (what : Int32) : Met l yX11_awake (Cond.code yX11_awake cX11_awake 3 (some .long) :: GT) ({ frames := 5, cells := 0, slots := 0, locals := 122 } : Room) (PcI [.ref (ax 112), .int i, .int what] dC dI G (X11I dC dI G ax T Y fa N B N1 B1 N2 B2 K S M E Z) sz) (va_Ql (fun (r : Int64) (_ : Unit) => True) (fun _ t => X11I dC dI G ax T Y fa N B N1 B1 N2 B2 K S M E Z t.heap) (adX 112 129 ax sz)) 0 0 (adX 112 129 ax sz) := by
  refine Met.pick (fun a st hp => ?_)
  obtain ⟨e0, hsz, hI, hK⟩ := hp
  subst hsz
  have hI0 := hI
  unfold X11I at hI
  obtain ⟨p0, p1, p2, p3, p4, p5, p6, p7, p8, p9, p10, p11, p12, p13, p14, p15, p16⟩ := hI
  unfold X11Pr at p0
  obtain ⟨zi112_4, zi112_5, zi112_6, zi112_7, zi112_8, zi112_9, zi112_13, zi112_14, zi112_15, zn112_16, zi112_17, zi112_18, zi112_34, p0j0, p0j1, p0j2, p0j3, p0j4, p0j5, p0j6, q112⟩ := p0
  unfold X11P0 at p1
  obtain ⟨zf113, p1j0, q113⟩ := p1
  unfold X11P21 at p6
  obtain ⟨zf118, q118⟩ := p6
  unfold X11P22 at p7
  obtain ⟨zf119, q119⟩ := p7
  refine ⟨_, _, _, c_X11_awake l dC dI G _ (ax 112) (ax 113) N B (ax 114) (ax 115) T (ax 116) (ax 117) (ax 118) (ax 119) (ax 120) (ax 121) S (ax 122) M (ax 123) (ax 124) (ax 125) (ax 126) (ax 127) (ax 128) i what zi112_4 zi112_5 zi112_6 zi112_7 zi112_8 zi112_9 fa zi112_13 zi112_14 zi112_15 (nI zn112_16) zi112_17 zi112_18 zi112_34 zf113 zf118 zf119 (by assumption) (by assumption) (by assumption) (by assumption) (by assumption) (by assumption), ⟨e0, rfl, (vpc q112 (vpc q113 (vpc q118 (vpc q119 va_nilP)))), hK, vD_ix hi [112, 113, 118, 119] (by rfl) (by decide) (by decide)⟩, ad_ix [112, 113, 118, 119] (by rfl) (by decide), fun o t hq => ?_⟩
  obtain ⟨⟨r, ⟨ood, oth⟩, ho, ⟨hr, hu⟩, hP1, -⟩, hF⟩ := hq
  have FR : ∀ lo hi' : Nat, hi' ≤ 129 → ([112, 113, 118, 119] : List Nat).all (fun x => decide (x < lo) || decide (hi' ≤ x)) = true → ∀ j : Nat, lo ≤ j → j < hi' → ax j < st.heap.size → t.heap[ax j]? = st.heap[ax j]? := fun lo hi' h1 h2 => fr_ix hi h1 hF.2 [112, 113, 118, 119] (by rfl) (by decide) h2
  have np0 : X11Pr dC dI G ax N B T fa S M t.heap := ⟨zi112_4, zi112_5, zi112_6, zi112_7, zi112_8, zi112_9, zi112_13, zi112_14, zi112_15, zn112_16, zi112_17, zi112_18, zi112_34, p0j0, p0j1, p0j2, p0j3, p0j4, p0j5, p0j6, hP1 0 _ rfl⟩
  have np1 : X11P0 dC dI G ax t.heap := ⟨zf113, p1j0, hP1 1 _ rfl⟩
  have np6 : X11P21 dC dI G ax t.heap := ⟨ood, hP1 2 _ rfl⟩
  have np7 : X11P22 dC dI G ax t.heap := ⟨oth, hP1 3 _ rfl⟩
  exact ⟨⟨r, (), ho, trivial, ⟨np0, np1, p2.kept (FR 114 115 (by decide) (by decide)), p3.kept (FR 115 116 (by decide) (by decide)), p4.kept (FR 116 117 (by decide) (by decide)), p5.kept (FR 117 118 (by decide) (by decide)), np6, np7, p8.kept (FR 120 121 (by decide) (by decide)), p9.kept (FR 121 122 (by decide) (by decide)), p10.kept (FR 122 123 (by decide) (by decide)), p11.kept (FR 123 124 (by decide) (by decide)), p12.kept (FR 124 125 (by decide) (by decide)), p13.kept (FR 125 126 (by decide) (by decide)), p14.kept (FR 126 127 (by decide) (by decide)), p15.kept (FR 127 128 (by decide) (by decide)), p16.kept (FR 128 129 (by decide) (by decide))⟩⟩, hF.wide (ad_ix [112, 113, 118, 119] (by rfl) (by decide))⟩

set_option maxHeartbeats 1000000 in
set_option maxRecDepth 100000 in
theorem k_X11_depth (l : Launch) (dC : Nat → ClassId) (dI : Nat → Nat → Nat) (G : Nat → ClassId) (sz : Nat) (ax : Nat → Nat) (hi : adInj 129 ax) (T : Nat) (Y : Nat → Int32) (fa : Int32) (N : Nat) (B : Nat) (N1 : Nat) (B1 : Nat) (N2 : Nat) (B2 : Nat) (K : Nat → Int32) (S : Nat) (M : Nat) (E : Nat → Int32) (Z : Nat → Int32) (i : Int32) (d : Int32) (what : Int32) : Met l yX11_depth (Cond.code yX11_depth cX11_depth 4 (some .long) :: GT) ({ frames := 4, cells := 0, slots := 0, locals := 99 } : Room) (PcI [.ref (ax 112), .int i, .int d, .int what] dC dI G (X11I dC dI G ax T Y fa N B N1 B1 N2 B2 K S M E Z) sz) (va_Ql (fun (r : Int64) (_ : Unit) => True) (fun _ t => X11I dC dI G ax T Y fa N B N1 B1 N2 B2 K S M E Z t.heap) (adX 112 129 ax sz)) 0 0 (adX 112 129 ax sz) := by
  refine Met.pick (fun a st hp => ?_)
  obtain ⟨e0, hsz, hI, hK⟩ := hp
  subst hsz
  have hI0 := hI
  unfold X11I at hI
  obtain ⟨p0, p1, p2, p3, p4, p5, p6, p7, p8, p9, p10, p11, p12, p13, p14, p15, p16⟩ := hI
  unfold X11Pr at p0
  obtain ⟨zi112_4, zi112_5, zi112_6, zi112_7, zi112_8, zi112_9, zi112_13, zi112_14, zi112_15, zn112_16, zi112_17, zi112_18, zi112_34, p0j0, p0j1, p0j2, p0j3, p0j4, p0j5, p0j6, q112⟩ := p0
  unfold X11P0 at p1
  obtain ⟨zf113, p1j0, q113⟩ := p1
  unfold X11P21 at p6
  obtain ⟨zf118, q118⟩ := p6
  unfold X11P22 at p7
  obtain ⟨zf119, q119⟩ := p7
  refine ⟨_, _, _, c_X11_depth l dC dI G _ (ax 112) (ax 113) N B (ax 114) (ax 115) T (ax 116) (ax 117) (ax 118) (ax 119) (ax 120) (ax 121) S (ax 122) M (ax 123) (ax 124) (ax 125) (ax 126) (ax 127) (ax 128) i d what zi112_4 zi112_5 zi112_6 zi112_7 zi112_8 zi112_9 fa zi112_13 zi112_14 zi112_15 (nI zn112_16) zi112_17 zi112_18 zi112_34 zf113 zf118 zf119 (by assumption) (by assumption) (by assumption) (by assumption) (by assumption) (by assumption), ⟨e0, rfl, (vpc q112 (vpc q113 (vpc q118 (vpc q119 va_nilP)))), hK, vD_ix hi [112, 113, 118, 119] (by rfl) (by decide) (by decide)⟩, ad_ix [112, 113, 118, 119] (by rfl) (by decide), fun o t hq => ?_⟩
  obtain ⟨⟨r, ⟨ood, oth⟩, ho, ⟨hr, hu⟩, hP1, -⟩, hF⟩ := hq
  have FR : ∀ lo hi' : Nat, hi' ≤ 129 → ([112, 113, 118, 119] : List Nat).all (fun x => decide (x < lo) || decide (hi' ≤ x)) = true → ∀ j : Nat, lo ≤ j → j < hi' → ax j < st.heap.size → t.heap[ax j]? = st.heap[ax j]? := fun lo hi' h1 h2 => fr_ix hi h1 hF.2 [112, 113, 118, 119] (by rfl) (by decide) h2
  have np0 : X11Pr dC dI G ax N B T fa S M t.heap := ⟨zi112_4, zi112_5, zi112_6, zi112_7, zi112_8, zi112_9, zi112_13, zi112_14, zi112_15, zn112_16, zi112_17, zi112_18, zi112_34, p0j0, p0j1, p0j2, p0j3, p0j4, p0j5, p0j6, hP1 0 _ rfl⟩
  have np1 : X11P0 dC dI G ax t.heap := ⟨zf113, p1j0, hP1 1 _ rfl⟩
  have np6 : X11P21 dC dI G ax t.heap := ⟨ood, hP1 2 _ rfl⟩
  have np7 : X11P22 dC dI G ax t.heap := ⟨oth, hP1 3 _ rfl⟩
  exact ⟨⟨r, (), ho, trivial, ⟨np0, np1, p2.kept (FR 114 115 (by decide) (by decide)), p3.kept (FR 115 116 (by decide) (by decide)), p4.kept (FR 116 117 (by decide) (by decide)), p5.kept (FR 117 118 (by decide) (by decide)), np6, np7, p8.kept (FR 120 121 (by decide) (by decide)), p9.kept (FR 121 122 (by decide) (by decide)), p10.kept (FR 122 123 (by decide) (by decide)), p11.kept (FR 123 124 (by decide) (by decide)), p12.kept (FR 124 125 (by decide) (by decide)), p13.kept (FR 125 126 (by decide) (by decide)), p14.kept (FR 126 127 (by decide) (by decide)), p15.kept (FR 127 128 (by decide) (by decide)), p16.kept (FR 128 129 (by decide) (by decide))⟩⟩, hF.wide (ad_ix [112, 113, 118, 119] (by rfl) (by decide))⟩

set_option maxHeartbeats 1000000 in
set_option maxRecDepth 100000 in
theorem k_X11_best (l : Launch) (dC : Nat → ClassId) (dI : Nat → Nat → Nat) (G : Nat → ClassId) (sz : Nat) (ax : Nat → Nat) (hi : adInj 129 ax) (T : Nat) (Y : Nat → Int32) (fa : Int32) (N : Nat) (B : Nat) (N1 : Nat) (B1 : Nat) (N2 : Nat) (B2 : Nat) (K : Nat → Int32) (S : Nat) (M : Nat) (E : Nat → Int32) (Z : Nat → Int32) (what : Int32) : Met l yX11_best (Cond.code yX11_best cX11_best 2 (some .long) :: GT) ({ frames := 4, cells := 0, slots := 0, locals := 102 } : Room) (PcI [.ref (ax 112), .int what] dC dI G (X11I dC dI G ax T Y fa N B N1 B1 N2 B2 K S M E Z) sz) (va_Ql (fun (r : Int64) (_ : Unit) => True) (fun _ t => X11I dC dI G ax T Y fa N B N1 B1 N2 B2 K S M E Z t.heap) (adX 112 129 ax sz)) 0 0 (adX 112 129 ax sz) := by
  refine Met.pick (fun a st hp => ?_)
  obtain ⟨e0, hsz, hI, hK⟩ := hp
  subst hsz
  have hI0 := hI
  unfold X11I at hI
  obtain ⟨p0, p1, p2, p3, p4, p5, p6, p7, p8, p9, p10, p11, p12, p13, p14, p15, p16⟩ := hI
  unfold X11Pr at p0
  obtain ⟨zi112_4, zi112_5, zi112_6, zi112_7, zi112_8, zi112_9, zi112_13, zi112_14, zi112_15, zn112_16, zi112_17, zi112_18, zi112_34, p0j0, p0j1, p0j2, p0j3, p0j4, p0j5, p0j6, q112⟩ := p0
  unfold X11P0 at p1
  obtain ⟨zf113, p1j0, q113⟩ := p1
  unfold X11P23 at p8
  obtain ⟨zf120, q120⟩ := p8
  refine ⟨_, _, _, c_X11_best l dC dI G _ (ax 112) (ax 113) N B (ax 114) (ax 115) T (ax 116) (ax 117) (ax 118) (ax 119) (ax 120) (ax 121) S (ax 122) M (ax 123) (ax 124) (ax 125) (ax 126) (ax 127) (ax 128) what zi112_4 zi112_5 zi112_6 zi112_7 zi112_8 zi112_9 fa zi112_13 zi112_14 zi112_15 (nI zn112_16) zi112_17 zi112_18 zi112_34 zf113 zf120 (by assumption) (by assumption) (by assumption) (by assumption) (by assumption) (by assumption) (by assumption), ⟨e0, rfl, (vpc q112 (vpc q113 (vpc q120 va_nilP))), hK, vD_ix hi [112, 113, 120] (by rfl) (by decide) (by decide)⟩, ad_ix [112, 113, 120] (by rfl) (by decide), fun o t hq => ?_⟩
  obtain ⟨⟨r, obe, ho, ⟨hr, hu⟩, hP1, -⟩, hF⟩ := hq
  have FR : ∀ lo hi' : Nat, hi' ≤ 129 → ([112, 113, 120] : List Nat).all (fun x => decide (x < lo) || decide (hi' ≤ x)) = true → ∀ j : Nat, lo ≤ j → j < hi' → ax j < st.heap.size → t.heap[ax j]? = st.heap[ax j]? := fun lo hi' h1 h2 => fr_ix hi h1 hF.2 [112, 113, 120] (by rfl) (by decide) h2
  have np0 : X11Pr dC dI G ax N B T fa S M t.heap := ⟨zi112_4, zi112_5, zi112_6, zi112_7, zi112_8, zi112_9, zi112_13, zi112_14, zi112_15, zn112_16, zi112_17, zi112_18, zi112_34, p0j0, p0j1, p0j2, p0j3, p0j4, p0j5, p0j6, hP1 0 _ rfl⟩
  have np1 : X11P0 dC dI G ax t.heap := ⟨zf113, p1j0, hP1 1 _ rfl⟩
  have np8 : X11P23 dC dI G ax t.heap := ⟨obe, hP1 2 _ rfl⟩
  exact ⟨⟨r, (), ho, trivial, ⟨np0, np1, p2.kept (FR 114 115 (by decide) (by decide)), p3.kept (FR 115 116 (by decide) (by decide)), p4.kept (FR 116 117 (by decide) (by decide)), p5.kept (FR 117 118 (by decide) (by decide)), p6.kept (FR 118 119 (by decide) (by decide)), p7.kept (FR 119 120 (by decide) (by decide)), np8, p9.kept (FR 121 122 (by decide) (by decide)), p10.kept (FR 122 123 (by decide) (by decide)), p11.kept (FR 123 124 (by decide) (by decide)), p12.kept (FR 124 125 (by decide) (by decide)), p13.kept (FR 125 126 (by decide) (by decide)), p14.kept (FR 126 127 (by decide) (by decide)), p15.kept (FR 127 128 (by decide) (by decide)), p16.kept (FR 128 129 (by decide) (by decide))⟩⟩, hF.wide (ad_ix [112, 113, 120] (by rfl) (by decide))⟩

set_option maxHeartbeats 1000000 in
set_option maxRecDepth 100000 in
theorem k_X11_next (l : Launch) (dC : Nat → ClassId) (dI : Nat → Nat → Nat) (G : Nat → ClassId) (sz : Nat) (ax : Nat → Nat) (hi : adInj 129 ax) (T : Nat) (Y : Nat → Int32) (fa : Int32) (N : Nat) (B : Nat) (N1 : Nat) (B1 : Nat) (N2 : Nat) (B2 : Nat) (K : Nat → Int32) (S : Nat) (M : Nat) (E : Nat → Int32) (Z : Nat → Int32) (i : Int32) (g : Int32) (d : Int32) : Met l yX11_next (Cond.code yX11_next cX11_next 5 (some .int) :: GT) ({ frames := 4, cells := 0, slots := 0, locals := 102 } : Room) (PcI [.ref (ax 112), .int i, .int g, .int d] dC dI G (X11I dC dI G ax T Y fa N B N1 B1 N2 B2 K S M E Z) sz) (va_Qi (fun (r : Int32) (_ : Unit) => True) (fun _ t => X11I dC dI G ax T Y fa N B N1 B1 N2 B2 K S M E Z t.heap) (adX 112 129 ax sz)) 0 0 (adX 112 129 ax sz) := by
  refine Met.pick (fun a st hp => ?_)
  obtain ⟨e0, hsz, hI, hK⟩ := hp
  subst hsz
  have hI0 := hI
  unfold X11I at hI
  obtain ⟨p0, p1, p2, p3, p4, p5, p6, p7, p8, p9, p10, p11, p12, p13, p14, p15, p16⟩ := hI
  unfold X11Pr at p0
  obtain ⟨zi112_4, zi112_5, zi112_6, zi112_7, zi112_8, zi112_9, zi112_13, zi112_14, zi112_15, zn112_16, zi112_17, zi112_18, zi112_34, p0j0, p0j1, p0j2, p0j3, p0j4, p0j5, p0j6, q112⟩ := p0
  unfold X11P0 at p1
  obtain ⟨zf113, p1j0, q113⟩ := p1
  unfold X11P23 at p8
  obtain ⟨zf120, q120⟩ := p8
  refine ⟨_, _, _, c_X11_next l dC dI G _ (ax 112) (ax 113) N B (ax 114) (ax 115) T (ax 116) (ax 117) (ax 118) (ax 119) (ax 120) (ax 121) S (ax 122) M (ax 123) (ax 124) (ax 125) (ax 126) (ax 127) (ax 128) i g d zi112_4 zi112_5 zi112_6 zi112_7 zi112_8 zi112_9 fa zi112_13 zi112_14 zi112_15 (nI zn112_16) zi112_17 zi112_18 zi112_34 zf113 zf120 (by assumption) (by assumption) (by assumption) (by assumption) (by assumption) (by assumption) (by assumption), ⟨e0, rfl, (vpc q112 (vpc q113 (vpc q120 va_nilP))), hK, vD_ix hi [112, 113, 120] (by rfl) (by decide) (by decide)⟩, ad_ix [112, 113, 120] (by rfl) (by decide), fun o t hq => ?_⟩
  obtain ⟨⟨r, obe, ho, ⟨hr, hu⟩, hP1, -⟩, hF⟩ := hq
  have FR : ∀ lo hi' : Nat, hi' ≤ 129 → ([112, 113, 120] : List Nat).all (fun x => decide (x < lo) || decide (hi' ≤ x)) = true → ∀ j : Nat, lo ≤ j → j < hi' → ax j < st.heap.size → t.heap[ax j]? = st.heap[ax j]? := fun lo hi' h1 h2 => fr_ix hi h1 hF.2 [112, 113, 120] (by rfl) (by decide) h2
  have np0 : X11Pr dC dI G ax N B T fa S M t.heap := ⟨zi112_4, zi112_5, zi112_6, zi112_7, zi112_8, zi112_9, zi112_13, zi112_14, zi112_15, zn112_16, zi112_17, zi112_18, zi112_34, p0j0, p0j1, p0j2, p0j3, p0j4, p0j5, p0j6, hP1 0 _ rfl⟩
  have np1 : X11P0 dC dI G ax t.heap := ⟨zf113, p1j0, hP1 1 _ rfl⟩
  have np8 : X11P23 dC dI G ax t.heap := ⟨obe, hP1 2 _ rfl⟩
  exact ⟨⟨r, (), ho, trivial, ⟨np0, np1, p2.kept (FR 114 115 (by decide) (by decide)), p3.kept (FR 115 116 (by decide) (by decide)), p4.kept (FR 116 117 (by decide) (by decide)), p5.kept (FR 117 118 (by decide) (by decide)), p6.kept (FR 118 119 (by decide) (by decide)), p7.kept (FR 119 120 (by decide) (by decide)), np8, p9.kept (FR 121 122 (by decide) (by decide)), p10.kept (FR 122 123 (by decide) (by decide)), p11.kept (FR 123 124 (by decide) (by decide)), p12.kept (FR 124 125 (by decide) (by decide)), p13.kept (FR 125 126 (by decide) (by decide)), p14.kept (FR 126 127 (by decide) (by decide)), p15.kept (FR 127 128 (by decide) (by decide)), p16.kept (FR 128 129 (by decide) (by decide))⟩⟩, hF.wide (ad_ix [112, 113, 120] (by rfl) (by decide))⟩

set_option maxHeartbeats 1000000 in
set_option maxRecDepth 100000 in
theorem k_X11_without (l : Launch) (dC : Nat → ClassId) (dI : Nat → Nat → Nat) (G : Nat → ClassId) (sz : Nat) (ax : Nat → Nat) (hi : adInj 129 ax) (T : Nat) (Y : Nat → Int32) (fa : Int32) (N : Nat) (B : Nat) (N1 : Nat) (B1 : Nat) (N2 : Nat) (B2 : Nat) (K : Nat → Int32) (S : Nat) (M : Nat) (E : Nat → Int32) (Z : Nat → Int32) (i : Int32) (what : Int32) : Met l yX11_without (Cond.code yX11_without cX11_without 3 (some .long) :: GT) ({ frames := 4, cells := 0, slots := 0, locals := 102 } : Room) (PcI [.ref (ax 112), .int i, .int what] dC dI G (X11I dC dI G ax T Y fa N B N1 B1 N2 B2 K S M E Z) sz) (va_Ql (fun (r : Int64) (_ : Unit) => True) (fun _ t => X11I dC dI G ax T Y fa N B N1 B1 N2 B2 K S M E Z t.heap) (adX 112 129 ax sz)) 0 0 (adX 112 129 ax sz) := by
  refine Met.pick (fun a st hp => ?_)
  obtain ⟨e0, hsz, hI, hK⟩ := hp
  subst hsz
  have hI0 := hI
  unfold X11I at hI
  obtain ⟨p0, p1, p2, p3, p4, p5, p6, p7, p8, p9, p10, p11, p12, p13, p14, p15, p16⟩ := hI
  unfold X11Pr at p0
  obtain ⟨zi112_4, zi112_5, zi112_6, zi112_7, zi112_8, zi112_9, zi112_13, zi112_14, zi112_15, zn112_16, zi112_17, zi112_18, zi112_34, p0j0, p0j1, p0j2, p0j3, p0j4, p0j5, p0j6, q112⟩ := p0
  unfold X11P0 at p1
  obtain ⟨zf113, p1j0, q113⟩ := p1
  unfold X11P23 at p8
  obtain ⟨zf120, q120⟩ := p8
  refine ⟨_, _, _, c_X11_without l dC dI G _ (ax 112) (ax 113) N B (ax 114) (ax 115) T (ax 116) (ax 117) (ax 118) (ax 119) (ax 120) (ax 121) S (ax 122) M (ax 123) (ax 124) (ax 125) (ax 126) (ax 127) (ax 128) i what zi112_4 zi112_5 zi112_6 zi112_7 zi112_8 zi112_9 fa zi112_13 zi112_14 zi112_15 (nI zn112_16) zi112_17 zi112_18 zi112_34 zf113 zf120 (by assumption) (by assumption) (by assumption) (by assumption) (by assumption) (by assumption) (by assumption), ⟨e0, rfl, (vpc q112 (vpc q113 (vpc q120 va_nilP))), hK, vD_ix hi [112, 113, 120] (by rfl) (by decide) (by decide)⟩, ad_ix [112, 113, 120] (by rfl) (by decide), fun o t hq => ?_⟩
  obtain ⟨⟨r, obe, ho, ⟨hr, hu⟩, hP1, -⟩, hF⟩ := hq
  have FR : ∀ lo hi' : Nat, hi' ≤ 129 → ([112, 113, 120] : List Nat).all (fun x => decide (x < lo) || decide (hi' ≤ x)) = true → ∀ j : Nat, lo ≤ j → j < hi' → ax j < st.heap.size → t.heap[ax j]? = st.heap[ax j]? := fun lo hi' h1 h2 => fr_ix hi h1 hF.2 [112, 113, 120] (by rfl) (by decide) h2
  have np0 : X11Pr dC dI G ax N B T fa S M t.heap := ⟨zi112_4, zi112_5, zi112_6, zi112_7, zi112_8, zi112_9, zi112_13, zi112_14, zi112_15, zn112_16, zi112_17, zi112_18, zi112_34, p0j0, p0j1, p0j2, p0j3, p0j4, p0j5, p0j6, hP1 0 _ rfl⟩
  have np1 : X11P0 dC dI G ax t.heap := ⟨zf113, p1j0, hP1 1 _ rfl⟩
  have np8 : X11P23 dC dI G ax t.heap := ⟨obe, hP1 2 _ rfl⟩
  exact ⟨⟨r, (), ho, trivial, ⟨np0, np1, p2.kept (FR 114 115 (by decide) (by decide)), p3.kept (FR 115 116 (by decide) (by decide)), p4.kept (FR 116 117 (by decide) (by decide)), p5.kept (FR 117 118 (by decide) (by decide)), p6.kept (FR 118 119 (by decide) (by decide)), p7.kept (FR 119 120 (by decide) (by decide)), np8, p9.kept (FR 121 122 (by decide) (by decide)), p10.kept (FR 122 123 (by decide) (by decide)), p11.kept (FR 123 124 (by decide) (by decide)), p12.kept (FR 124 125 (by decide) (by decide)), p13.kept (FR 125 126 (by decide) (by decide)), p14.kept (FR 126 127 (by decide) (by decide)), p15.kept (FR 127 128 (by decide) (by decide)), p16.kept (FR 128 129 (by decide) (by decide))⟩⟩, hF.wide (ad_ix [112, 113, 120] (by rfl) (by decide))⟩

set_option maxHeartbeats 1000000 in
set_option maxRecDepth 100000 in
theorem k_X11_quiet (l : Launch) (dC : Nat → ClassId) (dI : Nat → Nat → Nat) (G : Nat → ClassId) (sz : Nat) (ax : Nat → Nat) (hi : adInj 129 ax) (T : Nat) (Y : Nat → Int32) (fa : Int32) (N : Nat) (B : Nat) (N1 : Nat) (B1 : Nat) (N2 : Nat) (B2 : Nat) (K : Nat → Int32) (S : Nat) (M : Nat) (E : Nat → Int32) (Z : Nat → Int32) (mm : Int32) (what : Int32) : Met l yX11_quiet (Cond.code yX11_quiet cX11_quiet 7 (some .long) :: GT) ({ frames := 4, cells := 0, slots := 0, locals := 99 } : Room) (PcI [.ref (ax 112), .int mm, .int what] dC dI G (X11I dC dI G ax T Y fa N B N1 B1 N2 B2 K S M E Z) sz) (va_Ql (fun (r : Int64) (_ : Unit) => True) (fun _ t => X11I dC dI G ax T Y fa N B N1 B1 N2 B2 K S M E Z t.heap) (adX 112 129 ax sz)) 0 0 (adX 112 129 ax sz) := by
  refine Met.pick (fun a st hp => ?_)
  obtain ⟨e0, hsz, hI, hK⟩ := hp
  subst hsz
  have hI0 := hI
  unfold X11I at hI
  obtain ⟨p0, p1, p2, p3, p4, p5, p6, p7, p8, p9, p10, p11, p12, p13, p14, p15, p16⟩ := hI
  unfold X11Pr at p0
  obtain ⟨zi112_4, zi112_5, zi112_6, zi112_7, zi112_8, zi112_9, zi112_13, zi112_14, zi112_15, zn112_16, zi112_17, zi112_18, zi112_34, p0j0, p0j1, p0j2, p0j3, p0j4, p0j5, p0j6, q112⟩ := p0
  unfold X11P0 at p1
  obtain ⟨zf113, p1j0, q113⟩ := p1
  unfold X11P21 at p6
  obtain ⟨zf118, q118⟩ := p6
  unfold X11P22 at p7
  obtain ⟨zf119, q119⟩ := p7
  refine ⟨_, _, _, c_X11_quiet l dC dI G _ (ax 112) (ax 113) N B (ax 114) (ax 115) T (ax 116) (ax 117) (ax 118) (ax 119) (ax 120) (ax 121) S (ax 122) M (ax 123) (ax 124) (ax 125) (ax 126) (ax 127) (ax 128) mm what zi112_4 zi112_5 zi112_6 zi112_7 zi112_8 zi112_9 fa zi112_13 zi112_14 zi112_15 (nI zn112_16) zi112_17 zi112_18 zi112_34 zf113 zf118 zf119 (by assumption) (by assumption) (by assumption) (by assumption) (by assumption) (by assumption), ⟨e0, rfl, (vpc q112 (vpc q113 (vpc q118 (vpc q119 va_nilP)))), hK, vD_ix hi [112, 113, 118, 119] (by rfl) (by decide) (by decide)⟩, ad_ix [112, 113, 118, 119] (by rfl) (by decide), fun o t hq => ?_⟩
  obtain ⟨⟨r, ⟨ood, oth⟩, ho, ⟨hr, hu⟩, hP1, -⟩, hF⟩ := hq
  have FR : ∀ lo hi' : Nat, hi' ≤ 129 → ([112, 113, 118, 119] : List Nat).all (fun x => decide (x < lo) || decide (hi' ≤ x)) = true → ∀ j : Nat, lo ≤ j → j < hi' → ax j < st.heap.size → t.heap[ax j]? = st.heap[ax j]? := fun lo hi' h1 h2 => fr_ix hi h1 hF.2 [112, 113, 118, 119] (by rfl) (by decide) h2
  have np0 : X11Pr dC dI G ax N B T fa S M t.heap := ⟨zi112_4, zi112_5, zi112_6, zi112_7, zi112_8, zi112_9, zi112_13, zi112_14, zi112_15, zn112_16, zi112_17, zi112_18, zi112_34, p0j0, p0j1, p0j2, p0j3, p0j4, p0j5, p0j6, hP1 0 _ rfl⟩
  have np1 : X11P0 dC dI G ax t.heap := ⟨zf113, p1j0, hP1 1 _ rfl⟩
  have np6 : X11P21 dC dI G ax t.heap := ⟨ood, hP1 2 _ rfl⟩
  have np7 : X11P22 dC dI G ax t.heap := ⟨oth, hP1 3 _ rfl⟩
  exact ⟨⟨r, (), ho, trivial, ⟨np0, np1, p2.kept (FR 114 115 (by decide) (by decide)), p3.kept (FR 115 116 (by decide) (by decide)), p4.kept (FR 116 117 (by decide) (by decide)), p5.kept (FR 117 118 (by decide) (by decide)), np6, np7, p8.kept (FR 120 121 (by decide) (by decide)), p9.kept (FR 121 122 (by decide) (by decide)), p10.kept (FR 122 123 (by decide) (by decide)), p11.kept (FR 123 124 (by decide) (by decide)), p12.kept (FR 124 125 (by decide) (by decide)), p13.kept (FR 125 126 (by decide) (by decide)), p14.kept (FR 126 127 (by decide) (by decide)), p15.kept (FR 127 128 (by decide) (by decide)), p16.kept (FR 128 129 (by decide) (by decide))⟩⟩, hF.wide (ad_ix [112, 113, 118, 119] (by rfl) (by decide))⟩

set_option maxHeartbeats 1000000 in
set_option maxRecDepth 100000 in
theorem k_X11_drop (l : Launch) (dC : Nat → ClassId) (dI : Nat → Nat → Nat) (G : Nat → ClassId) (sz : Nat) (ax : Nat → Nat) (hi : adInj 129 ax) (T : Nat) (Y : Nat → Int32) (fa : Int32) (N : Nat) (B : Nat) (N1 : Nat) (B1 : Nat) (N2 : Nat) (B2 : Nat) (K : Nat → Int32) (S : Nat) (M : Nat) (E : Nat → Int32) (Z : Nat → Int32) (what : Int32) : Met l yX11_drop (Cond.code yX11_drop cX11_drop 6 (some .long) :: GT) ({ frames := 4, cells := 0, slots := 0, locals := 99 } : Room) (PcI [.ref (ax 112), .int what] dC dI G (X11I dC dI G ax T Y fa N B N1 B1 N2 B2 K S M E Z) sz) (va_Ql (fun (r : Int64) (_ : Unit) => True) (fun _ t => X11I dC dI G ax T Y fa N B N1 B1 N2 B2 K S M E Z t.heap) (adX 112 129 ax sz)) 0 0 (adX 112 129 ax sz) := by
  refine Met.pick (fun a st hp => ?_)
  obtain ⟨e0, hsz, hI, hK⟩ := hp
  subst hsz
  have hI0 := hI
  unfold X11I at hI
  obtain ⟨p0, p1, p2, p3, p4, p5, p6, p7, p8, p9, p10, p11, p12, p13, p14, p15, p16⟩ := hI
  unfold X11Pr at p0
  obtain ⟨zi112_4, zi112_5, zi112_6, zi112_7, zi112_8, zi112_9, zi112_13, zi112_14, zi112_15, zn112_16, zi112_17, zi112_18, zi112_34, p0j0, p0j1, p0j2, p0j3, p0j4, p0j5, p0j6, q112⟩ := p0
  unfold X11P0 at p1
  obtain ⟨zf113, p1j0, q113⟩ := p1
  unfold X11P21 at p6
  obtain ⟨zf118, q118⟩ := p6
  unfold X11P22 at p7
  obtain ⟨zf119, q119⟩ := p7
  refine ⟨_, _, _, c_X11_drop l dC dI G _ (ax 112) (ax 113) N B (ax 114) (ax 115) T (ax 116) (ax 117) (ax 118) (ax 119) (ax 120) (ax 121) S (ax 122) M (ax 123) (ax 124) (ax 125) (ax 126) (ax 127) (ax 128) what zi112_4 zi112_5 zi112_6 zi112_7 zi112_8 zi112_9 fa zi112_13 zi112_14 zi112_15 (nI zn112_16) zi112_17 zi112_18 zi112_34 zf113 zf118 zf119 (by assumption) (by assumption) (by assumption) (by assumption) (by assumption) (by assumption), ⟨e0, rfl, (vpc q112 (vpc q113 (vpc q118 (vpc q119 va_nilP)))), hK, vD_ix hi [112, 113, 118, 119] (by rfl) (by decide) (by decide)⟩, ad_ix [112, 113, 118, 119] (by rfl) (by decide), fun o t hq => ?_⟩
  obtain ⟨⟨r, ⟨ood, oth⟩, ho, ⟨hr, hu⟩, hP1, -⟩, hF⟩ := hq
  have FR : ∀ lo hi' : Nat, hi' ≤ 129 → ([112, 113, 118, 119] : List Nat).all (fun x => decide (x < lo) || decide (hi' ≤ x)) = true → ∀ j : Nat, lo ≤ j → j < hi' → ax j < st.heap.size → t.heap[ax j]? = st.heap[ax j]? := fun lo hi' h1 h2 => fr_ix hi h1 hF.2 [112, 113, 118, 119] (by rfl) (by decide) h2
  have np0 : X11Pr dC dI G ax N B T fa S M t.heap := ⟨zi112_4, zi112_5, zi112_6, zi112_7, zi112_8, zi112_9, zi112_13, zi112_14, zi112_15, zn112_16, zi112_17, zi112_18, zi112_34, p0j0, p0j1, p0j2, p0j3, p0j4, p0j5, p0j6, hP1 0 _ rfl⟩
  have np1 : X11P0 dC dI G ax t.heap := ⟨zf113, p1j0, hP1 1 _ rfl⟩
  have np6 : X11P21 dC dI G ax t.heap := ⟨ood, hP1 2 _ rfl⟩
  have np7 : X11P22 dC dI G ax t.heap := ⟨oth, hP1 3 _ rfl⟩
  exact ⟨⟨r, (), ho, trivial, ⟨np0, np1, p2.kept (FR 114 115 (by decide) (by decide)), p3.kept (FR 115 116 (by decide) (by decide)), p4.kept (FR 116 117 (by decide) (by decide)), p5.kept (FR 117 118 (by decide) (by decide)), np6, np7, p8.kept (FR 120 121 (by decide) (by decide)), p9.kept (FR 121 122 (by decide) (by decide)), p10.kept (FR 122 123 (by decide) (by decide)), p11.kept (FR 123 124 (by decide) (by decide)), p12.kept (FR 124 125 (by decide) (by decide)), p13.kept (FR 125 126 (by decide) (by decide)), p14.kept (FR 126 127 (by decide) (by decide)), p15.kept (FR 127 128 (by decide) (by decide)), p16.kept (FR 128 129 (by decide) (by decide))⟩⟩, hF.wide (ad_ix [112, 113, 118, 119] (by rfl) (by decide))⟩

set_option maxHeartbeats 1000000 in
set_option maxRecDepth 100000 in
theorem k_X11_swap (l : Launch) (dC : Nat → ClassId) (dI : Nat → Nat → Nat) (G : Nat → ClassId) (sz : Nat) (ax : Nat → Nat) (hi : adInj 129 ax) (T : Nat) (Y : Nat → Int32) (fa : Int32) (N : Nat) (B : Nat) (N1 : Nat) (B1 : Nat) (N2 : Nat) (B2 : Nat) (K : Nat → Int32) (S : Nat) (M : Nat) (E : Nat → Int32) (Z : Nat → Int32) (what : Int32) : Met l yX11_swap (Cond.code yX11_swap cX11_swap 7 (some .long) :: GT) ({ frames := 4, cells := 0, slots := 0, locals := 99 } : Room) (PcI [.ref (ax 112), .int what] dC dI G (X11I dC dI G ax T Y fa N B N1 B1 N2 B2 K S M E Z) sz) (va_Ql (fun (r : Int64) (_ : Unit) => True) (fun _ t => X11I dC dI G ax T Y fa N B N1 B1 N2 B2 K S M E Z t.heap) (adX 112 129 ax sz)) 0 0 (adX 112 129 ax sz) := by
  refine Met.pick (fun a st hp => ?_)
  obtain ⟨e0, hsz, hI, hK⟩ := hp
  subst hsz
  have hI0 := hI
  unfold X11I at hI
  obtain ⟨p0, p1, p2, p3, p4, p5, p6, p7, p8, p9, p10, p11, p12, p13, p14, p15, p16⟩ := hI
  unfold X11Pr at p0
  obtain ⟨zi112_4, zi112_5, zi112_6, zi112_7, zi112_8, zi112_9, zi112_13, zi112_14, zi112_15, zn112_16, zi112_17, zi112_18, zi112_34, p0j0, p0j1, p0j2, p0j3, p0j4, p0j5, p0j6, q112⟩ := p0
  unfold X11P0 at p1
  obtain ⟨zf113, p1j0, q113⟩ := p1
  unfold X11P21 at p6
  obtain ⟨zf118, q118⟩ := p6
  unfold X11P22 at p7
  obtain ⟨zf119, q119⟩ := p7
  refine ⟨_, _, _, c_X11_swap l dC dI G _ (ax 112) (ax 113) N B (ax 114) (ax 115) T (ax 116) (ax 117) (ax 118) (ax 119) (ax 120) (ax 121) S (ax 122) M (ax 123) (ax 124) (ax 125) (ax 126) (ax 127) (ax 128) what zi112_4 zi112_5 zi112_6 zi112_7 zi112_8 zi112_9 fa zi112_13 zi112_14 zi112_15 (nI zn112_16) zi112_17 zi112_18 zi112_34 zf113 zf118 zf119 (by assumption) (by assumption) (by assumption) (by assumption) (by assumption) (by assumption), ⟨e0, rfl, (vpc q112 (vpc q113 (vpc q118 (vpc q119 va_nilP)))), hK, vD_ix hi [112, 113, 118, 119] (by rfl) (by decide) (by decide)⟩, ad_ix [112, 113, 118, 119] (by rfl) (by decide), fun o t hq => ?_⟩
  obtain ⟨⟨r, ⟨ost, ood, oth⟩, ho, ⟨hr, hu⟩, hP1, -⟩, hF⟩ := hq
  have FR : ∀ lo hi' : Nat, hi' ≤ 129 → ([112, 113, 118, 119] : List Nat).all (fun x => decide (x < lo) || decide (hi' ≤ x)) = true → ∀ j : Nat, lo ≤ j → j < hi' → ax j < st.heap.size → t.heap[ax j]? = st.heap[ax j]? := fun lo hi' h1 h2 => fr_ix hi h1 hF.2 [112, 113, 118, 119] (by rfl) (by decide) h2
  have np0 : X11Pr dC dI G ax N B T fa S M t.heap := ⟨zi112_4, zi112_5, zi112_6, zi112_7, zi112_8, zi112_9, zi112_13, zi112_14, zi112_15, zn112_16, zi112_17, zi112_18, zi112_34, p0j0, p0j1, p0j2, p0j3, p0j4, p0j5, p0j6, hP1 0 _ rfl⟩
  have np1 : X11P0 dC dI G ax t.heap := ⟨ost, (by first | omega | exact hu | exact hu.1 | exact hu.1.1 | exact hu.1.2 | exact hu.2 | exact fd_nn (by assumption) | (split at hu <;> omega) | (split <;> omega) | exact E_inv (by assumption)), hP1 1 _ rfl⟩
  have np6 : X11P21 dC dI G ax t.heap := ⟨ood, hP1 2 _ rfl⟩
  have np7 : X11P22 dC dI G ax t.heap := ⟨oth, hP1 3 _ rfl⟩
  exact ⟨⟨r, (), ho, trivial, ⟨np0, np1, p2.kept (FR 114 115 (by decide) (by decide)), p3.kept (FR 115 116 (by decide) (by decide)), p4.kept (FR 116 117 (by decide) (by decide)), p5.kept (FR 117 118 (by decide) (by decide)), np6, np7, p8.kept (FR 120 121 (by decide) (by decide)), p9.kept (FR 121 122 (by decide) (by decide)), p10.kept (FR 122 123 (by decide) (by decide)), p11.kept (FR 123 124 (by decide) (by decide)), p12.kept (FR 124 125 (by decide) (by decide)), p13.kept (FR 125 126 (by decide) (by decide)), p14.kept (FR 126 127 (by decide) (by decide)), p15.kept (FR 127 128 (by decide) (by decide)), p16.kept (FR 128 129 (by decide) (by decide))⟩⟩, hF.wide (ad_ix [112, 113, 118, 119] (by rfl) (by decide))⟩

set_option maxHeartbeats 1000000 in
set_option maxRecDepth 100000 in
theorem k_X11_carry (l : Launch) (dC : Nat → ClassId) (dI : Nat → Nat → Nat) (G : Nat → ClassId) (sz : Nat) (ax : Nat → Nat) (hi : adInj 129 ax) (T : Nat) (Y : Nat → Int32) (fa : Int32) (N : Nat) (B : Nat) (N1 : Nat) (B1 : Nat) (N2 : Nat) (B2 : Nat) (K : Nat → Int32) (S : Nat) (M : Nat) (E : Nat → Int32) (Z : Nat → Int32) (sd : Int32) (what : Int32) : Met l yX11_carry (Cond.code yX11_carry cX11_carry 9 (some .int) :: GT) ({ frames := 3, cells := 0, slots := 0, locals := 72 } : Room) (PcI [.ref (ax 112), .int sd, .int what] dC dI G (X11I dC dI G ax T Y fa N B N1 B1 N2 B2 K S M E Z) sz) (va_Qi (fun (r : Int32) (_ : Unit) => True) (fun _ t => X11I dC dI G ax T Y fa N B N1 B1 N2 B2 K S M E Z t.heap) (adX 112 129 ax sz)) 0 0 (adX 112 129 ax sz) := by
  refine Met.pick (fun a st hp => ?_)
  obtain ⟨e0, hsz, hI, hK⟩ := hp
  subst hsz
  have hI0 := hI
  unfold X11I at hI
  obtain ⟨p0, p1, p2, p3, p4, p5, p6, p7, p8, p9, p10, p11, p12, p13, p14, p15, p16⟩ := hI
  unfold X11Pr at p0
  obtain ⟨zi112_4, zi112_5, zi112_6, zi112_7, zi112_8, zi112_9, zi112_13, zi112_14, zi112_15, zn112_16, zi112_17, zi112_18, zi112_34, p0j0, p0j1, p0j2, p0j3, p0j4, p0j5, p0j6, q112⟩ := p0
  unfold X11P0 at p1
  obtain ⟨zf113, p1j0, q113⟩ := p1
  refine ⟨_, _, _, c_X11_carry l dC dI G _ (ax 112) (ax 113) N B (ax 114) (ax 115) T (ax 116) (ax 117) (ax 118) (ax 119) (ax 120) (ax 121) S (ax 122) M (ax 123) (ax 124) (ax 125) (ax 126) (ax 127) (ax 128) sd what zi112_4 zi112_5 zi112_6 zi112_7 zi112_8 zi112_9 fa zi112_13 zi112_14 zi112_15 (nI zn112_16) zi112_17 zi112_18 zi112_34 zf113 (by assumption) (by assumption) (by assumption) (by assumption) (by assumption) (by assumption), ⟨e0, rfl, (vpc q112 (vpc q113 va_nilP)), hK⟩, fun q h => Or.inr h, fun o t hq => ?_⟩
  obtain ⟨⟨r, u, ho, ⟨hr, hu⟩, -⟩, hF⟩ := hq
  exact ⟨⟨r, (), ho, trivial, hI0.kept (fun j _ _ h => hF.2 _ h (Nat.not_le.mpr h))⟩, hF.wide (fun q h => Or.inr h)⟩

set_option maxHeartbeats 1000000 in
set_option maxRecDepth 100000 in
theorem k_X11_learnE (l : Launch) (dC : Nat → ClassId) (dI : Nat → Nat → Nat) (G : Nat → ClassId) (sz : Nat) (ax : Nat → Nat) (hi : adInj 129 ax) (T : Nat) (Y : Nat → Int32) (fa : Int32) (N : Nat) (B : Nat) (N1 : Nat) (B1 : Nat) (N2 : Nat) (B2 : Nat) (K : Nat → Int32) (S : Nat) (M : Nat) (E : Nat → Int32) (Z : Nat → Int32) (i : Int32) (g : Int32) (k : Int32) (hm : Int32) : Met l yX11_learn (Cond.code yX11_learn cX11_learn 6 (some .int) :: GT) ({ frames := 3, cells := 0, slots := 0, locals := 69 } : Room) (PcI [.ref (ax 112), .int i, .int g, .int k, .int hm] dC dI G (X11I dC dI G ax T Y fa N B N1 B1 N2 B2 K S M E Z) sz) (va_Qi (fun (r : Int32) (_ : Unit) => r = if ((0 ≤ i.toInt ∧ i.toInt < ((N : Nat) : Int)) ∧ (g.toInt = -4 ∨ (0 ≤ g.toInt ∧ g.toInt < ((B : Nat) : Int))) ∧ (0 ≤ k.toInt ∧ k.toInt < ((B : Nat) : Int)) ∧ 0 ≤ hm.toInt ∧ hm.toInt ≤ 20) then (if S < 8 then nI (S + 1) else -3) else -1) (fun _ t => X11I dC dI G ax T Y fa N B N1 B1 N2 B2 K (if ((0 ≤ i.toInt ∧ i.toInt < ((N : Nat) : Int)) ∧ (g.toInt = -4 ∨ (0 ≤ g.toInt ∧ g.toInt < ((B : Nat) : Int))) ∧ (0 ≤ k.toInt ∧ k.toInt < ((B : Nat) : Int)) ∧ 0 ≤ hm.toInt ∧ hm.toInt ≤ 20) ∧ S < 8 then S + 1 else S) M E Z t.heap) (adX 112 129 ax sz)) 0 0 (adX 112 129 ax sz) := by
  refine Met.pick (fun a st hp => ?_)
  obtain ⟨e0, hsz, hI, hK⟩ := hp
  subst hsz
  have hI0 := hI
  unfold X11I at hI
  obtain ⟨p0, p1, p2, p3, p4, p5, p6, p7, p8, p9, p10, p11, p12, p13, p14, p15, p16⟩ := hI
  unfold X11Pr at p0
  obtain ⟨zi112_4, zi112_5, zi112_6, zi112_7, zi112_8, zi112_9, zi112_13, zi112_14, zi112_15, zn112_16, zi112_17, zi112_18, zi112_34, p0j0, p0j1, p0j2, p0j3, p0j4, p0j5, p0j6, q112⟩ := p0
  unfold X11P24 at p9
  obtain ⟨zf121, p9j0, q121⟩ := p9
  refine ⟨_, _, _, c_X11_learnE l dC dI G _ (ax 112) (ax 113) N B (ax 114) (ax 115) T (ax 116) (ax 117) (ax 118) (ax 119) (ax 120) (ax 121) S (ax 122) M (ax 123) (ax 124) (ax 125) (ax 126) (ax 127) (ax 128) i g k hm zi112_4 zi112_5 zi112_6 zi112_7 zi112_8 zi112_9 fa zi112_13 zi112_14 zi112_15 (nI zn112_16) zi112_17 zi112_18 zi112_34 zf121 (by assumption) (by assumption) (by assumption) (by assumption) (by assumption) (by assumption), ⟨e0, rfl, (vpc q112 (vpc q121 va_nilP)), hK, vD_ix hi [112, 121] (by rfl) (by decide) (by decide)⟩, ad_ix [112, 121] (by rfl) (by decide), fun o t hq => ?_⟩
  obtain ⟨⟨r, ⟨oS, oln⟩, ho, ⟨hr, hu⟩, hP1, -⟩, hF⟩ := hq
  have FR : ∀ lo hi' : Nat, hi' ≤ 129 → ([112, 121] : List Nat).all (fun x => decide (x < lo) || decide (hi' ≤ x)) = true → ∀ j : Nat, lo ≤ j → j < hi' → ax j < st.heap.size → t.heap[ax j]? = st.heap[ax j]? := fun lo hi' h1 h2 => fr_ix hi h1 hF.2 [112, 121] (by rfl) (by decide) h2
  have xS : (if ((0 ≤ i.toInt ∧ i.toInt < ((N : Nat) : Int)) ∧ (g.toInt = -4 ∨ (0 ≤ g.toInt ∧ g.toInt < ((B : Nat) : Int))) ∧ (0 ≤ k.toInt ∧ k.toInt < ((B : Nat) : Int)) ∧ 0 ≤ hm.toInt ∧ hm.toInt ≤ 20) ∧ S < 8 then S + 1 else S) = oS := Eq.symm (by first | exact hu | exact hu.1 | exact hu.2 | exact hu.1.1 | exact hu.1.2 | exact hu.2.1.trans (txt_cf (by assumption)) | exact hu.2.1.trans (txt_rf (by assumption)) | exact hu.1.1.trans lmap_step | omega)
  subst xS
  have np0 : X11Pr dC dI G ax N B T fa (if ((0 ≤ i.toInt ∧ i.toInt < ((N : Nat) : Int)) ∧ (g.toInt = -4 ∨ (0 ≤ g.toInt ∧ g.toInt < ((B : Nat) : Int))) ∧ (0 ≤ k.toInt ∧ k.toInt < ((B : Nat) : Int)) ∧ 0 ≤ hm.toInt ∧ hm.toInt ≤ 20) ∧ S < 8 then S + 1 else S) M t.heap := ⟨zi112_4, zi112_5, zi112_6, zi112_7, zi112_8, zi112_9, zi112_13, zi112_14, zi112_15, zn112_16, zi112_17, zi112_18, zi112_34, p0j0, p0j1, p0j2, (by first | omega | exact hu | exact hu.1 | exact hu.1.1 | exact hu.1.2 | exact hu.2 | exact fd_nn (by assumption) | (split at hu <;> omega) | (split <;> omega) | exact E_inv (by assumption)), p0j4, p0j5, p0j6, hP1 0 _ rfl⟩
  have np9 : X11P24 dC dI G ax t.heap := ⟨oln, (by first | omega | exact hu | exact hu.1 | exact hu.1.1 | exact hu.1.2 | exact hu.2 | exact fd_nn (by assumption) | (split at hu <;> omega) | (split <;> omega) | exact E_inv (by assumption)), hP1 1 _ rfl⟩
  exact ⟨⟨r, (), ho, hr, ⟨np0, p1.kept (FR 113 114 (by decide) (by decide)), p2.kept (FR 114 115 (by decide) (by decide)), p3.kept (FR 115 116 (by decide) (by decide)), p4.kept (FR 116 117 (by decide) (by decide)), p5.kept (FR 117 118 (by decide) (by decide)), p6.kept (FR 118 119 (by decide) (by decide)), p7.kept (FR 119 120 (by decide) (by decide)), p8.kept (FR 120 121 (by decide) (by decide)), np9, p10.kept (FR 122 123 (by decide) (by decide)), p11.kept (FR 123 124 (by decide) (by decide)), p12.kept (FR 124 125 (by decide) (by decide)), p13.kept (FR 125 126 (by decide) (by decide)), p14.kept (FR 126 127 (by decide) (by decide)), p15.kept (FR 127 128 (by decide) (by decide)), p16.kept (FR 128 129 (by decide) (by decide))⟩⟩, hF.wide (ad_ix [112, 121] (by rfl) (by decide))⟩

set_option maxHeartbeats 1000000 in
set_option maxRecDepth 100000 in
theorem k_X11_forgetE (l : Launch) (dC : Nat → ClassId) (dI : Nat → Nat → Nat) (G : Nat → ClassId) (sz : Nat) (ax : Nat → Nat) (hi : adInj 129 ax) (T : Nat) (Y : Nat → Int32) (fa : Int32) (N : Nat) (B : Nat) (N1 : Nat) (B1 : Nat) (N2 : Nat) (B2 : Nat) (K : Nat → Int32) (S : Nat) (M : Nat) (E : Nat → Int32) (Z : Nat → Int32) (n : Int32) : Met l yX11_forget (Cond.code yX11_forget cX11_forget 3 (some .int) :: GT) ({ frames := 1, cells := 0, slots := 0, locals := 25 } : Room) (PcI [.ref (ax 112), .int n] dC dI G (X11I dC dI G ax T Y fa N B N1 B1 N2 B2 K S M E Z) sz) (va_Qi (fun (r : Int32) (_ : Unit) => r = if 0 ≤ n.toInt ∧ n.toInt ≤ ((S : Nat) : Int) then nI S else -1) (fun _ t => X11I dC dI G ax T Y fa N B N1 B1 N2 B2 K (if 0 ≤ n.toInt ∧ n.toInt ≤ ((S : Nat) : Int) then n.toNatClampNeg else S) M E Z t.heap) (adX 112 129 ax sz)) 0 0 (adX 112 129 ax sz) := by
  refine Met.pick (fun a st hp => ?_)
  obtain ⟨e0, hsz, hI, hK⟩ := hp
  subst hsz
  have hI0 := hI
  unfold X11I at hI
  obtain ⟨p0, p1, p2, p3, p4, p5, p6, p7, p8, p9, p10, p11, p12, p13, p14, p15, p16⟩ := hI
  unfold X11Pr at p0
  obtain ⟨zi112_4, zi112_5, zi112_6, zi112_7, zi112_8, zi112_9, zi112_13, zi112_14, zi112_15, zn112_16, zi112_17, zi112_18, zi112_34, p0j0, p0j1, p0j2, p0j3, p0j4, p0j5, p0j6, q112⟩ := p0
  refine ⟨_, _, _, c_X11_forgetE l dC dI G _ (ax 112) (ax 113) N B (ax 114) (ax 115) T (ax 116) (ax 117) (ax 118) (ax 119) (ax 120) (ax 121) S (ax 122) M (ax 123) (ax 124) (ax 125) (ax 126) (ax 127) (ax 128) n zi112_4 zi112_5 zi112_6 zi112_7 zi112_8 zi112_9 fa zi112_13 zi112_14 zi112_15 (nI zn112_16) zi112_17 zi112_18 zi112_34 (by assumption) (by assumption) (by assumption) (by assumption) (by assumption), ⟨e0, rfl, (vpc q112 va_nilP), hK, vD_ix hi [112] (by rfl) (by decide) (by decide)⟩, ad_ix [112] (by rfl) (by decide), fun o t hq => ?_⟩
  obtain ⟨⟨r, oS, ho, ⟨hr, hu⟩, hP1, -⟩, hF⟩ := hq
  have FR : ∀ lo hi' : Nat, hi' ≤ 129 → ([112] : List Nat).all (fun x => decide (x < lo) || decide (hi' ≤ x)) = true → ∀ j : Nat, lo ≤ j → j < hi' → ax j < st.heap.size → t.heap[ax j]? = st.heap[ax j]? := fun lo hi' h1 h2 => fr_ix hi h1 hF.2 [112] (by rfl) (by decide) h2
  have xS : (if 0 ≤ n.toInt ∧ n.toInt ≤ ((S : Nat) : Int) then n.toNatClampNeg else S) = oS := Eq.symm (by first | exact hu | exact hu.1 | exact hu.2 | exact hu.1.1 | exact hu.1.2 | exact hu.2.1.trans (txt_cf (by assumption)) | exact hu.2.1.trans (txt_rf (by assumption)) | exact hu.1.1.trans lmap_step | omega)
  subst xS
  have np0 : X11Pr dC dI G ax N B T fa (if 0 ≤ n.toInt ∧ n.toInt ≤ ((S : Nat) : Int) then n.toNatClampNeg else S) M t.heap := ⟨zi112_4, zi112_5, zi112_6, zi112_7, zi112_8, zi112_9, zi112_13, zi112_14, zi112_15, zn112_16, zi112_17, zi112_18, zi112_34, p0j0, p0j1, p0j2, (by first | omega | exact hu | exact hu.1 | exact hu.1.1 | exact hu.1.2 | exact hu.2 | exact fd_nn (by assumption) | (split at hu <;> omega) | (split <;> omega) | exact E_inv (by assumption)), p0j4, p0j5, p0j6, hP1 0 _ rfl⟩
  exact ⟨⟨r, (), ho, hr, ⟨np0, p1.kept (FR 113 114 (by decide) (by decide)), p2.kept (FR 114 115 (by decide) (by decide)), p3.kept (FR 115 116 (by decide) (by decide)), p4.kept (FR 116 117 (by decide) (by decide)), p5.kept (FR 117 118 (by decide) (by decide)), p6.kept (FR 118 119 (by decide) (by decide)), p7.kept (FR 119 120 (by decide) (by decide)), p8.kept (FR 120 121 (by decide) (by decide)), p9.kept (FR 121 122 (by decide) (by decide)), p10.kept (FR 122 123 (by decide) (by decide)), p11.kept (FR 123 124 (by decide) (by decide)), p12.kept (FR 124 125 (by decide) (by decide)), p13.kept (FR 125 126 (by decide) (by decide)), p14.kept (FR 126 127 (by decide) (by decide)), p15.kept (FR 127 128 (by decide) (by decide)), p16.kept (FR 128 129 (by decide) (by decide))⟩⟩, hF.wide (ad_ix [112] (by rfl) (by decide))⟩
