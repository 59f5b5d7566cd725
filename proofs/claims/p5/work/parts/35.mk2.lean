set_option maxHeartbeats 1000000 in
set_option maxRecDepth 100000 in
theorem k_X11_harm (l : Launch) (dC : Nat → ClassId) (dI : Nat → Nat → Nat) (G : Nat → ClassId) (sz : Nat) (ax : Nat → Nat) (hi : adInj 129 ax) (T : Nat) (Y : Nat → Int32) (fa : Int32) (N : Nat) (B : Nat) (N1 : Nat) (B1 : Nat) (N2 : Nat) (B2 : Nat) (K : Nat → Int32) (S : Nat) (M : Nat) (E : Nat → Int32) (Z : Nat → Int32) (i : Int32) (g : Int32) (k : Int32) : Met l yX11_harm (Cond.code yX11_harm cX11_harm 4 (some .int) :: GT) ({ frames := 3, cells := 0, slots := 0, locals := 69 } : Room) (PcI [.ref (ax 112), .int i, .int g, .int k] dC dI G (X11I dC dI G ax T Y fa N B N1 B1 N2 B2 K S M E Z) sz) (va_Qi (fun (r : Int32) (_ : Unit) => True) (fun _ t => X11I dC dI G ax T Y fa N B N1 B1 N2 B2 K S M E Z t.heap) (adX 112 129 ax sz)) 0 0 (adX 112 129 ax sz) := by
  refine Met.pick (fun a st hp => ?_)
  obtain ⟨e0, hsz, hI, hK⟩ := hp
  subst hsz
  have hI0 := hI
  unfold X11I at hI
  obtain ⟨p0, p1, p2, p3, p4, p5, p6, p7, p8, p9, p10, p11, p12, p13, p14, p15, p16⟩ := hI
  unfold X11Pr at p0
  obtain ⟨zi112_4, zi112_5, zi112_6, zi112_7, zi112_8, zi112_9, zi112_13, zi112_14, zi112_15, zn112_16, zi112_17, zi112_18, zi112_34, p0j0, p0j1, p0j2, p0j3, p0j4, p0j5, p0j6, q112⟩ := p0
  unfold X11P0 at p1
  obtain ⟨zf113, p1j0, q113⟩ := p1
  refine ⟨_, _, _, c_X11_harm l dC dI G _ (ax 112) (ax 113) N B (ax 114) (ax 115) T (ax 116) (ax 117) (ax 118) (ax 119) (ax 120) (ax 121) S (ax 122) M (ax 123) (ax 124) (ax 125) (ax 126) (ax 127) (ax 128) i g k zi112_4 zi112_5 zi112_6 zi112_7 zi112_8 zi112_9 fa zi112_13 zi112_14 zi112_15 (nI zn112_16) zi112_17 zi112_18 zi112_34 zf113 (by assumption) (by assumption) (by assumption) (by assumption) (by assumption), ⟨e0, rfl, (vpc q112 (vpc q113 va_nilP)), hK⟩, fun q h => Or.inr h, fun o t hq => ?_⟩
  obtain ⟨⟨r, u, ho, ⟨hr, hu⟩, -⟩, hF⟩ := hq
  exact ⟨⟨r, (), ho, trivial, hI0.kept (fun j _ _ h => hF.2 _ h (Nat.not_le.mpr h))⟩, hF.wide (fun q h => Or.inr h)⟩

set_option maxHeartbeats 1000000 in
set_option maxRecDepth 100000 in
theorem k_X11_wakes (l : Launch) (dC : Nat → ClassId) (dI : Nat → Nat → Nat) (G : Nat → ClassId) (sz : Nat) (ax : Nat → Nat) (hi : adInj 129 ax) (T : Nat) (Y : Nat → Int32) (fa : Int32) (N : Nat) (B : Nat) (N1 : Nat) (B1 : Nat) (N2 : Nat) (B2 : Nat) (K : Nat → Int32) (S : Nat) (M : Nat) (E : Nat → Int32) (Z : Nat → Int32) (what : Int32) : Met l yX11_wakes (Cond.code yX11_wakes cX11_wakes 2 (some .long) :: GT) ({ frames := 4, cells := 0, slots := 0, locals := 99 } : Room) (PcI [.ref (ax 112), .int what] dC dI G (X11I dC dI G ax T Y fa N B N1 B1 N2 B2 K S M E Z) sz) (va_Ql (fun (r : Int64) (_ : Unit) => True) (fun _ t => X11I dC dI G ax T Y fa N B N1 B1 N2 B2 K S M E Z t.heap) (adX 112 129 ax sz)) 0 0 (adX 112 129 ax sz) := by
  refine Met.pick (fun a st hp => ?_)
  obtain ⟨e0, hsz, hI, hK⟩ := hp
  subst hsz
  have hI0 := hI
  unfold X11I at hI
  obtain ⟨p0, p1, p2, p3, p4, p5, p6, p7, p8, p9, p10, p11, p12, p13, p14, p15, p16⟩ := hI
  unfold X11Pr at p0
  obtain ⟨zi112_4, zi112_5, zi112_6, zi112_7, zi112_8, zi112_9, zi112_13, zi112_14, zi112_15, zn112_16, zi112_17, zi112_18, zi112_34, p0j0, p0j1, p0j2, p0j3, p0j4, p0j5, p0j6, q112⟩ := p0
  unfold X11P0 at p1
  obtain ⟨zf113, p1j0, q113⟩ := p1
  unfold X11P21 at p6
  obtain ⟨zf118, q118⟩ := p6
  unfold X11P22 at p7
  obtain ⟨zf119, q119⟩ := p7
  refine ⟨_, _, _, c_X11_wakes l dC dI G _ (ax 112) (ax 113) N B (ax 114) (ax 115) T (ax 116) (ax 117) (ax 118) (ax 119) (ax 120) (ax 121) S (ax 122) M (ax 123) (ax 124) (ax 125) (ax 126) (ax 127) (ax 128) what zi112_4 zi112_5 zi112_6 zi112_7 zi112_8 zi112_9 fa zi112_13 zi112_14 zi112_15 (nI zn112_16) zi112_17 zi112_18 zi112_34 zf113 zf118 zf119 (by assumption) (by assumption) (by assumption) (by assumption) (by assumption) (by assumption), ⟨e0, rfl, (vpc q112 (vpc q113 (vpc q118 (vpc q119 va_nilP)))), hK, vD_ix hi [112, 113, 118, 119] (by rfl) (by decide) (by decide)⟩, ad_ix [112, 113, 118, 119] (by rfl) (by decide), fun o t hq => ?_⟩
  obtain ⟨⟨r, ⟨ood, oth⟩, ho, ⟨hr, hu⟩, hP1, -⟩, hF⟩ := hq
  have FR : ∀ lo hi' : Nat, hi' ≤ 129 → ([112, 113, 118, 119] : List Nat).all (fun x => decide (x < lo) || decide (hi' ≤ x)) = true → ∀ j : Nat, lo ≤ j → j < hi' → ax j < st.heap.size → t.heap[ax j]? = st.heap[ax j]? := fun lo hi' h1 h2 => fr_ix hi h1 hF.2 [112, 113, 118, 119] (by rfl) (by decide) h2
  have np0 : X11Pr dC dI G ax N B T fa S M t.heap := ⟨zi112_4, zi112_5, zi112_6, zi112_7, zi112_8, zi112_9, zi112_13, zi112_14, zi112_15, zn112_16, zi112_17, zi112_18, zi112_34, p0j0, p0j1, p0j2, p0j3, p0j4, p0j5, p0j6, hP1 0 _ rfl⟩
  have np1 : X11P0 dC dI G ax t.heap := ⟨zf113, p1j0, hP1 1 _ rfl⟩
  have np6 : X11P21 dC dI G ax t.heap := ⟨ood, hP1 2 _ rfl⟩
  have np7 : X11P22 dC dI G ax t.heap := ⟨oth, hP1 3 _ rfl⟩
  exact ⟨⟨r, (), ho, trivial, ⟨np0, np1, p2.kept (FR 114 115 (by decide) (by decide)), p3.kept (FR 115 116 (by decide) (by decide)), p4.kept (FR 116 117 (by decide) (by decide)), p5.kept (FR 117 118 (by decide) (by decide)), np6, np7, p8.kept (FR 120 121 (by decide) (by decide)), p9.kept (FR 121 122 (by decide) (by decide)), p10.kept (FR 122 123 (by decide) (by decide)), p11.kept (FR 123 124 (by decide) (by decide)), p12.kept (FR 124 125 (by decide) (by decide)), p13.kept (FR 125 126 (by decide) (by decide)), p14.kept (FR 126 127 (by decide) (by decide)), p15.kept (FR 127 128 (by decide) (by decide)), p16.kept (FR 128 129 (by decide) (by decide))⟩⟩, hF.wide (ad_ix [112, 113, 118, 119] (by rfl) (by decide))⟩

set_option maxHeartbeats 1000000 in
set_option maxRecDepth 100000 in
theorem k_X11_awake (l : Launch) (dC : Nat → ClassId) (dI : Nat → Nat → Nat) (G : Nat → ClassId) (sz : Nat) (ax : Nat → Nat) (hi : adInj 129 ax) (T : Nat) (Y : Nat → Int32) (fa : Int32) (N : Nat) (B : Nat) (N1 : Nat) (B1 : Nat) (N2 : Nat) (B2 : Nat) (K : Nat → Int32) (S : Nat) (M : Nat) (E : Nat → Int32) (Z : Nat → Int32) (i : Int32) (what : Int32) : Met l yX11_awake (Cond.code yX11_awake cX11_awake 3 (some .long) :: GT) ({ frames := 5, cells := 0, slots := 0, locals := 122 } : Room) (PcI [.ref (ax 112), .int i, .int what] dC dI G (X11I dC dI G ax T Y fa N B N1 B1 N2 B2 K S M E Z) sz) (va_Ql (fun (r : Int64) (_ : Unit) => True) (fun _ t => X11I dC dI G ax T Y fa N B N1 B1 N2 B2 K S M E Z t.heap) (adX 112 129 ax sz)) 0 0 (adX 112 129 ax sz) := by
  refine Met.pick (fun a st hp => ?_)
  obtain ⟨e0, hsz, hI, hK⟩ := hp
  subst hsz
  have hI0 := hI
  unfold X11I at hI
  obtain ⟨p0, p1, p2, p3, p4, p5, p6, p7, p8, p9, p10, p11, p12, p13, p14, p15, p16⟩ := hI
  unfold X11Pr at p0
  obtain ⟨zi112_4, zi112_5, zi112_6, zi112_7, zi112_8, zi112_9, zi112_13, zi112_14, zi112_15, zn112_16, zi112_17, zi112_18, zi112_34, p0j0, p0j1, p0j2, p0j3, p0j4, p0j5, p0j6, q112⟩ := p0
  unfold X11P0 at p1
  obtain ⟨zf113, p1j0, q113⟩ := p1
  unfold X11P21 at p6
  obtain ⟨zf118, q118⟩ := p6
  unfold X11P22 at p7
  obtain ⟨zf119, q119⟩ := p7
  refine ⟨_, _, _, c_X11_awake l dC dI G _ (ax 112) (ax 113) N B (ax 114) (ax 115) T (ax 116) (ax 117) (ax 118) (ax 119) (ax 120) (ax 121) S (ax 122) M (ax 123) (ax 124) (ax 125) (ax 126) (ax 127) (ax 128) i what zi112_4 zi112_5 zi112_6 zi112_7 zi112_8 zi112_9 fa zi112_13 zi112_14 zi112_15 (nI zn112_16) zi112_17 zi112_18 zi112_34 zf113 zf118 zf119 (by assumption) (by assumption) (by assumption) (by assumption) (by assumption) (by assumption), ⟨e0, rfl, (vpc q112 (vpc q113 (vpc q118 (vpc q119 va_nilP)))), hK, vD_ix hi [112, 113, 118, 119] (by rfl) (by decide) (by decide)⟩, ad_ix [112, 113, 118, 119] (by rfl) (by decide), fun o t hq => ?_⟩
  obtain ⟨⟨r, ⟨ood, oth⟩, ho, ⟨hr, hu⟩, hP1, -⟩, hF⟩ := hq
  have FR : ∀ lo hi' : Nat, hi' ≤ 129 → ([112, 113, 118, 119] : List Nat).all (fun x => decide (x < lo) || decide (hi' ≤ x)) = true → ∀ j : Nat, lo ≤ j → j < hi' → ax j < st.heap.size → t.heap[ax j]? = st.heap[ax j]? := fun lo hi' h1 h2 => fr_ix hi h1 hF.2 [112, 113, 118, 119] (by rfl) (by decide) h2
  have np0 : X11Pr dC dI G ax N B T fa S M t.heap := ⟨zi112_4, zi112_5, zi112_6, zi112_7, zi112_8, zi112_9, zi112_13, zi112_14, zi112_15, zn112_16, zi112_17, zi112_18, zi112_34, p0j0, p0j1, p0j2, p0j3, p0j4, p0j5, p0j6, hP1 0 _ rfl⟩
  have np1 : X11P0 dC dI G ax t.heap := ⟨zf113, p1j0, hP1 1 _ rfl⟩
  have np6 : X11P21 dC dI G ax t.heap := ⟨ood, hP1 2 _ rfl⟩
  have np7 : X11P22 dC dI G ax t.heap := ⟨oth, hP1 3 _ rfl⟩
  exact ⟨⟨r, (), ho, trivial, ⟨np0, np1, p2.kept (FR 114 115 (by decide) (by decide)), p3.kept (FR 115 116 (by decide) (by decide)), p4.kept (FR 116 117 (by decide) (by decide)), p5.kept (FR 117 118 (by decide) (by decide)), np6, np7, p8.kept (FR 120 121 (by decide) (by decide)), p9.kept (FR 121 122 (by decide) (by decide)), p10.kept (FR 122 123 (by decide) (by decide)), p11.kept (FR 123 124 (by decide) (by decide)), p12.kept (FR 124 125 (by decide) (by decide)), p13.kept (FR 125 126 (by decide) (by decide)), p14.kept (FR 126 127 (by decide) (by decide)), p15.kept (FR 127 128 (by decide) (by decide)), p16.kept (FR 128 129 (by decide) (by decide))⟩⟩, hF.wide (ad_ix [112, 113, 118, 119] (by rfl) (by decide))⟩

set_option maxHeartbeats 1000000 in
set_option maxRecDepth 100000 in
theorem k_X11_depth (l : Launch) (dC : Nat → ClassId) (dI : Nat → Nat → Nat) (G : Nat → ClassId) (sz : Nat) (ax : Nat → Nat) (hi : adInj 129 ax) (T : Nat) (Y : Nat → Int32) (fa : Int32) (N : Nat) (B : Nat) (N1 : Nat) (B1 : Nat) (N2 : Nat) (B2 : Nat) (K : Nat → Int32) (S : Nat) (M : Nat) (E : Nat → Int32) (Z : Nat → Int32) (i : Int32) (d : Int32) (what : Int32) : Met l yX11_depth (Cond.code yX11_depth cX11_depth 4 (some .long) :: GT) ({ frames := 4, cells := 0, slots := 0, locals := 99 } : Room) (PcI [.ref (ax 112), .int i, .int d, .int what] dC dI G (X11I dC dI G ax T Y fa N B N1 B1 N2 B2 K S M E Z) sz) (va_Ql (fun (r : Int64) (_ : Unit) => True) (fun _ t => X11I dC dI G ax T Y fa N B N1 B1 N2 B2 K S M E Z t.heap) (adX 112 129 ax sz)) 0 0 (adX 112 129 ax sz) := by
  refine Met.pick (fun a st hp => ?_)
  obtain ⟨e0, hsz, hI, hK⟩ := hp
  subst hsz
  have hI0 := hI
  unfold X11I at hI
  obtain ⟨p0, p1, p2, p3, p4, p5, p6, p7, p8, p9, p10, p11, p12, p13, p14, p15, p16⟩ := hI
  unfold X11Pr at p0
  obtain ⟨zi112_4, zi112_5, zi112_6, zi112_7, zi112_8, zi112_9, zi112_13, zi112_14, zi112_15, zn112_16, zi112_17, zi112_18, zi112_34, p0j0, p0j1, p0j2, p0j3, p0j4, p0j5, p0j6, q112⟩ := p0
  unfold X11P0 at p1
  obtain ⟨zf113, p1j0, q113⟩ := p1
  unfold X11P21 at p6
  obtain ⟨zf118, q118⟩ := p6
  unfold X11P22 at p7
  obtain ⟨zf119, q119⟩ := p7
  refine ⟨_, _, _, c_X11_depth l dC dI G _ (ax 112) (ax 113) N B (ax 114) (ax 115) T (ax 116) (ax 117) (ax 118) (ax 119) (ax 120) (ax 121) S (ax 122) M (ax 123) (ax 124) (ax 125) (ax 126) (ax 127) (ax 128) i d what zi112_4 zi112_5 zi112_6 zi112_7 zi112_8 zi112_9 fa zi112_13 zi112_14 zi112_15 (nI zn112_16) zi112_17 zi112_18 zi112_34 zf113 zf118 zf119 (by assumption) (by assumption) (by assumption) (by assumption) (by assumption) (by assumption), ⟨e0, rfl, (vpc q112 (vpc q113 (vpc q118 (vpc q119 va_nilP)))), hK, vD_ix hi [112, 113, 118, 119] (by rfl) (by decide) (by decide)⟩, ad_ix [112, 113, 118, 119] (by rfl) (by decide), fun o t hq => ?_⟩
  obtain ⟨⟨r, ⟨ood, oth⟩, ho, ⟨hr, hu⟩, hP1, -⟩, hF⟩ := hq
  have FR : ∀ lo hi' : Nat, hi' ≤ 129 → ([112, 113, 118, 119] : List Nat).all (fun x => decide (x < lo) || decide (hi' ≤ x)) = true → ∀ j : Nat, lo ≤ j → j < hi' → ax j < st.heap.size → t.heap[ax j]? = st.heap[ax j]? := fun lo hi' h1 h2 => fr_ix hi h1 hF.2 [112, 113, 118, 119] (by rfl) (by decide) h2
  have np0 : X11Pr dC dI G ax N B T fa S M t.heap := ⟨zi112_4, zi112_5, zi112_6, zi112_7, zi112_8, zi112_9, zi112_13, zi112_14, zi112_15, zn112_16, zi112_17, zi112_18, zi112_34, p0j0, p0j1, p0j2, p0j3, p0j4, p0j5, p0j6, hP1 0 _ rfl⟩
  have np1 : X11P0 dC dI G ax t.heap := ⟨zf113, p1j0, hP1 1 _ rfl⟩
  have np6 : X11P21 dC dI G ax t.heap := ⟨ood, hP1 2 _ rfl⟩
  have np7 : X11P22 dC dI G ax t.heap := ⟨oth, hP1 3 _ rfl⟩
  exact ⟨⟨r, (), ho, trivial, ⟨np0, np1, p2.kept (FR 114 115 (by decide) (by decide)), p3.kept (FR 115 116 (by decide) (by decide)), p4.kept (FR 116 117 (by decide) (by decide)), p5.kept (FR 117 118 (by decide) (by decide)), np6, np7, p8.kept (FR 120 121 (by decide) (by decide)), p9.kept (FR 121 122 (by decide) (by decide)), p10.kept (FR 122 123 (by decide) (by decide)), p11.kept (FR 123 124 (by decide) (by decide)), p12.kept (FR 124 125 (by decide) (by decide)), p13.kept (FR 125 126 (by decide) (by decide)), p14.kept (FR 126 127 (by decide) (by decide)), p15.kept (FR 127 128 (by decide) (by decide)), p16.kept (FR 128 129 (by decide) (by decide))⟩⟩, hF.wide (ad_ix [112, 113, 118, 119] (by rfl) (by decide))⟩

set_option maxHeartbeats 1000000 in
set_option maxRecDepth 100000 in
theorem k_X11_best (l : Launch) (dC : Nat → ClassId) (dI : Nat → Nat → Nat) (G : Nat → ClassId) (sz : Nat) (ax : Nat → Nat) (hi : adInj 129 ax) (T : Nat) (Y : Nat → Int32) (fa : Int32) (N : Nat) (B : Nat) (N1 : Nat) (B1 : Nat) (N2 : Nat) (B2 : Nat) (K : Nat → Int32) (S : Nat) (M : Nat) (E : Nat → Int32) (Z : Nat → Int32) (what : Int32) : Met l yX11_best (Cond.code yX11_best cX11_best 2 (some .long) :: GT) ({ frames := 4, cells := 0, slots := 0, locals := 102 } : Room) (PcI [.ref (ax 112), .int what] dC dI G (X11I dC dI G ax T Y fa N B N1 B1 N2 B2 K S M E Z) sz) (va_Ql (fun (r : Int64) (_ : Unit) => True) (fun _ t => X11I dC dI G ax T Y fa N B N1 B1 N2 B2 K S M E Z t.heap) (adX 112 129 ax sz)) 0 0 (adX 112 129 ax sz) := by
  refine Met.pick (fun a st hp => ?_)
  obtain ⟨e0, hsz, hI, hK⟩ := hp
  subst hsz
  have hI0 := hI
  unfold X11I at hI
  obtain ⟨p0, p1, p2, p3, p4, p5, p6, p7, p8, p9, p10, p11, p12, p13, p14, p15, p16⟩ := hI
  unfold X11Pr at p0
  obtain ⟨zi112_4, zi112_5, zi112_6, zi112_7, zi112_8, zi112_9, zi112_13, zi112_14, zi112_15, zn112_16, zi112_17, zi112_18, zi112_34, p0j0, p0j1, p0j2, p0j3, p0j4, p0j5, p0j6, q112⟩ := p0
  unfold X11P0 at p1
  obtain ⟨zf113, p1j0, q113⟩ := p1
  unfold X11P23 at p8
  obtain ⟨zf120, q120⟩ := p8
  refine ⟨_, _, _, c_X11_best l dC dI G _ (ax 112) (ax 113) N B (ax 114) (ax 115) T (ax 116) (ax 117) (ax 118) (ax 119) (ax 120) (ax 121) S (ax 122) M (ax 123) (ax 124) (ax 125) (ax 126) (ax 127) (ax 128) what zi112_4 zi112_5 zi112_6 zi112_7 zi112_8 zi112_9 fa zi112_13 zi112_14 zi112_15 (nI zn112_16) zi112_17 zi112_18 zi112_34 zf113 zf120 (by assumption) (by assumption) (by assumption) (by assumption) (by assumption) (by assumption) (by assumption), ⟨e0, rfl, (vpc q112 (vpc q113 (vpc q120 va_nilP))), hK, vD_ix hi [112, 113, 120] (by rfl) (by decide) (by decide)⟩, ad_ix [112, 113, 120] (by rfl) (by decide), fun o t hq => ?_⟩
  obtain ⟨⟨r, obe, ho, ⟨hr, hu⟩, hP1, -⟩, hF⟩ := hq
  have FR : ∀ lo hi' : Nat, hi' ≤ 129 → ([112, 113, 120] : List Nat).all (fun x => decide (x < lo) || decide (hi' ≤ x)) = true → ∀ j : Nat, lo ≤ j → j < hi' → ax j < st.heap.size → t.heap[ax j]? = st.heap[ax j]? := fun lo hi' h1 h2 => fr_ix hi h1 hF.2 [112, 113, 120] (by rfl) (by decide) h2
  have np0 : X11Pr dC dI G ax N B T fa S M t.heap := ⟨zi112_4, zi112_5, zi112_6, zi112_7, zi112_8, zi112_9, zi112_13, zi112_14, zi112_15, zn112_16, zi112_17, zi112_18, zi112_34, p0j0, p0j1, p0j2, p0j3, p0j4, p0j5, p0j6, hP1 0 _ rfl⟩
  have np1 : X11P0 dC dI G ax t.heap := ⟨zf113, p1j0, hP1 1 _ rfl⟩
  have np8 : X11P23 dC dI G ax t.heap := ⟨obe, hP1 2 _ rfl⟩
  exact ⟨⟨r, (), ho, trivial, ⟨np0, np1, p2.kept (FR 114 115 (by decide) (by decide)), p3.kept (FR 115 116 (by decide) (by decide)), p4.kept (FR 116 117 (by decide) (by decide)), p5.kept (FR 117 118 (by decide) (by decide)), p6.kept (FR 118 119 (by decide) (by decide)), p7.kept (FR 119 120 (by decide) (by decide)), np8, p9.kept (FR 121 122 (by decide) (by decide)), p10.kept (FR 122 123 (by decide) (by decide)), p11.kept (FR 123 124 (by decide) (by decide)), p12.kept (FR 124 125 (by decide) (by decide)), p13.kept (FR 125 126 (by decide) (by decide)), p14.kept (FR 126 127 (by decide) (by decide)), p15.kept (FR 127 128 (by decide) (by decide)), p16.kept (FR 128 129 (by decide) (by decide))⟩⟩, hF.wide (ad_ix [112, 113, 120] (by rfl) (by decide))⟩

set_option maxHeartbeats 1000000 in
set_option maxRecDepth 100000 in
theorem k_X11_next (l : Launch) (dC : Nat → ClassId) (dI : Nat → Nat → Nat) (G : Nat → ClassId) (sz : Nat) (ax : Nat → Nat) (hi : adInj 129 ax) (T : Nat) (Y : Nat → Int32) (fa : Int32) (N : Nat) (B : Nat) (N1 : Nat) (B1 : Nat) (N2 : Nat) (B2 : Nat) (K : Nat → Int32) (S : Nat) (M : Nat) (E : Nat → Int32) (Z : Nat → Int32) (i : Int32) (g : Int32) (d : Int32) : Met l yX11_next (Cond.code yX11_next cX11_next 5 (some .int) :: GT) ({ frames := 4, cells := 0, slots := 0, locals := 102 } : Room) (PcI [.ref (ax 112), .int i, .int g, .int d] dC dI G (X11I dC dI G ax T Y fa N B N1 B1 N2 B2 K S M E Z) sz) (va_Qi (fun (r : Int32) (_ : Unit) => True) (fun _ t => X11I dC dI G ax T Y fa N B N1 B1 N2 B2 K S M E Z t.heap) (adX 112 129 ax sz)) 0 0 (adX 112 129 ax sz) := by
  refine Met.pick (fun a st hp => ?_)
  obtain ⟨e0, hsz, hI, hK⟩ := hp
  subst hsz
  have hI0 := hI
  unfold X11I at hI
  obtain ⟨p0, p1, p2, p3, p4, p5, p6, p7, p8, p9, p10, p11, p12, p13, p14, p15, p16⟩ := hI
  unfold X11Pr at p0
  obtain ⟨zi112_4, zi112_5, zi112_6, zi112_7, zi112_8, zi112_9, zi112_13, zi112_14, zi112_15, zn112_16, zi112_17, zi112_18, zi112_34, p0j0, p0j1, p0j2, p0j3, p0j4, p0j5, p0j6, q112⟩ := p0
  unfold X11P0 at p1
  obtain ⟨zf113, p1j0, q113⟩ := p1
  unfold X11P23 at p8
  obtain ⟨zf120, q120⟩ := p8
  refine ⟨_, _, _, c_X11_next l dC dI G _ (ax 112) (ax 113) N B (ax 114) (ax 115) T (ax 116) (ax 117) (ax 118) (ax 119) (ax 120) (ax 121) S (ax 122) M (ax 123) (ax 124) (ax 125) (ax 126) (ax 127) (ax 128) i g d zi112_4 zi112_5 zi112_6 zi112_7 zi112_8 zi112_9 fa zi112_13 zi112_14 zi112_15 (nI zn112_16) zi112_17 zi112_18 zi112_34 zf113 zf120 (by assumption) (by assumption) (by assumption) (by assumption) (by assumption) (by assumption) (by assumption), ⟨e0, rfl, (vpc q112 (vpc q113 (vpc q120 va_nilP))), hK, vD_ix hi [112, 113, 120] (by rfl) (by decide) (by decide)⟩, ad_ix [112, 113, 120] (by rfl) (by decide), fun o t hq => ?_⟩
  obtain ⟨⟨r, obe, ho, ⟨hr, hu⟩, hP1, -⟩, hF⟩ := hq
  have FR : ∀ lo hi' : Nat, hi' ≤ 129 → ([112, 113, 120] : List Nat).all (fun x => decide (x < lo) || decide (hi' ≤ x)) = true → ∀ j : Nat, lo ≤ j → j < hi' → ax j < st.heap.size → t.heap[ax j]? = st.heap[ax j]? := fun lo hi' h1 h2 => fr_ix hi h1 hF.2 [112, 113, 120] (by rfl) (by decide) h2
  have np0 : X11Pr dC dI G ax N B T fa S M t.heap := ⟨zi112_4, zi112_5, zi112_6, zi112_7, zi112_8, zi112_9, zi112_13, zi112_14, zi112_15, zn112_16, zi112_17, zi112_18, zi112_34, p0j0, p0j1, p0j2, p0j3, p0j4, p0j5, p0j6, hP1 0 _ rfl⟩
  have np1 : X11P0 dC dI G ax t.heap := ⟨zf113, p1j0, hP1 1 _ rfl⟩
  have np8 : X11P23 dC dI G ax t.heap := ⟨obe, hP1 2 _ rfl⟩
  exact ⟨⟨r, (), ho, trivial, ⟨np0, np1, p2.kept (FR 114 115 (by decide) (by decide)), p3.kept (FR 115 116 (by decide) (by decide)), p4.kept (FR 116 117 (by decide) (by decide)), p5.kept (FR 117 118 (by decide) (by decide)), p6.kept (FR 118 119 (by decide) (by decide)), p7.kept (FR 119 120 (by decide) (by decide)), np8, p9.kept (FR 121 122 (by decide) (by decide)), p10.kept (FR 122 123 (by decide) (by decide)), p11.kept (FR 123 124 (by decide) (by decide)), p12.kept (FR 124 125 (by decide) (by decide)), p13.kept (FR 125 126 (by decide) (by decide)), p14.kept (FR 126 127 (by decide) (by decide)), p15.kept (FR 127 128 (by decide) (by decide)), p16.kept (FR 128 129 (by decide) (by decide))⟩⟩, hF.wide (ad_ix [112, 113, 120] (by rfl) (by decide))⟩

set_option maxHeartbeats 1000000 in
set_option maxRecDepth 100000 in
theorem k_X11_without (l : Launch) (dC : Nat → ClassId) (dI : Nat → Nat → Nat) (G : Nat → ClassId) (sz : Nat) (ax : Nat → Nat) (hi : adInj 129 ax) (T : Nat) (Y : Nat → Int32) (fa : Int32) (N : Nat) (B : Nat) (N1 : Nat) (B1 : Nat) (N2 : Nat) (B2 : Nat) (K : Nat → Int32) (S : Nat) (M : Nat) (E : Nat → Int32) (Z : Nat → Int32) (i : Int32) (what : Int32) : Met l yX11_without (Cond.code yX11_without cX11_without 3 (some .long) :: GT) ({ frames := 4, cells := 0, slots := 0, locals := 102 } : Room) (PcI [.ref (ax 112), .int i, .int what] dC dI G (X11I dC dI G ax T Y fa N B N1 B1 N2 B2 K S M E Z) sz) (va_Ql (fun (r : Int64) (_ : Unit) => True) (fun _ t => X11I dC dI G ax T Y fa N B N1 B1 N2 B2 K S M E Z t.heap) (adX 112 129 ax sz)) 0 0 (adX 112 129 ax sz) := by
  refine Met.pick (fun a st hp => ?_)
  obtain ⟨e0, hsz, hI, hK⟩ := hp
  subst hsz
  have hI0 := hI
  unfold X11I at hI
  obtain ⟨p0, p1, p2, p3, p4, p5, p6, p7, p8, p9, p10, p11, p12, p13, p14, p15, p16⟩ := hI
  unfold X11Pr at p0
  obtain ⟨zi112_4, zi112_5, zi112_6, zi112_7, zi112_8, zi112_9, zi112_13, zi112_14, zi112_15, zn112_16, zi112_17, zi112_18, zi112_34, p0j0, p0j1, p0j2, p0j3, p0j4, p0j5, p0j6, q112⟩ := p0
  unfold X11P0 at p1
  obtain ⟨zf113, p1j0, q113⟩ := p1
  unfold X11P23 at p8
  obtain ⟨zf120, q120⟩ := p8
  refine ⟨_, _, _, c_X11_without l dC dI G _ (ax 112) (ax 113) N B (ax 114) (ax 115) T (ax 116) (ax 117) (ax 118) (ax 119) (ax 120) (ax 121) S (ax 122) M (ax 123) (ax 124) (ax 125) (ax 126) (ax 127) (ax 128) i what zi112_4 zi112_5 zi112_6 zi112_7 zi112_8 zi112_9 fa zi112_13 zi112_14 zi112_15 (nI zn112_16) zi112_17 zi112_18 zi112_34 zf113 zf120 (by assumption) (by assumption) (by assumption) (by assumption) (by assumption) (by assumption) (by assumption), ⟨e0, rfl, (vpc q112 (vpc q113 (vpc q120 va_nilP))), hK, vD_ix hi [112, 113, 120] (by rfl) (by decide) (by decide)⟩, ad_ix [112, 113, 120] (by rfl) (by decide), fun o t hq => ?_⟩
  obtain ⟨⟨r, obe, ho, ⟨hr, hu⟩, hP1, -⟩, hF⟩ := hq
  have FR : ∀ lo hi' : Nat, hi' ≤ 129 → ([112, 113, 120] : List Nat).all (fun x => decide (x < lo) || decide (hi' ≤ x)) = true → ∀ j : Nat, lo ≤ j → j < hi' → ax j < st.heap.size → t.heap[ax j]? = st.heap[ax j]? := fun lo hi' h1 h2 => fr_ix hi h1 hF.2 [112, 113, 120] (by rfl) (by decide) h2
  have np0 : X11Pr dC dI G ax N B T fa S M t.heap := ⟨zi112_4, zi112_5, zi112_6, zi112_7, zi112_8, zi112_9, zi112_13, zi112_14, zi112_15, zn112_16, zi112_17, zi112_18, zi112_34, p0j0, p0j1, p0j2, p0j3, p0j4, p0j5, p0j6, hP1 0 _ rfl⟩
  have np1 : X11P0 dC dI G ax t.heap := ⟨zf113, p1j0, hP1 1 _ rfl⟩
  have np8 : X11P23 dC dI G ax t.heap := ⟨obe, hP1 2 _ rfl⟩
  exact ⟨⟨r, (), ho, trivial, ⟨np0, np1, p2.kept (FR 114 115 (by decide) (by decide)), p3.kept (FR 115 116 (by decide) (by decide)), p4.kept (FR 116 117 (by decide) (by decide)), p5.kept (FR 117 118 (by decide) (by decide)), p6.kept (FR 118 119 (by decide) (by decide)), p7.kept (FR 119 120 (by decide) (by decide)), np8, p9.kept (FR 121 122 (by decide) (by decide)), p10.kept (FR 122 123 (by decide) (by decide)), p11.kept (FR 123 124 (by decide) (by decide)), p12.kept (FR 124 125 (by decide) (by decide)), p13.kept (FR 125 126 (by decide) (by decide)), p14.kept (FR 126 127 (by decide) (by decide)), p15.kept (FR 127 128 (by decide) (by decide)), p16.kept (FR 128 129 (by decide) (by decide))⟩⟩, hF.wide (ad_ix [112, 113, 120] (by rfl) (by decide))⟩

set_option maxHeartbeats 1000000 in
set_option maxRecDepth 100000 in
theorem k_X11_quiet (l : Launch) (dC : Nat → ClassId) (dI : Nat → Nat → Nat) (G : Nat → ClassId) (sz : Nat) (ax : Nat → Nat) (hi : adInj 129 ax) (T : Nat) (Y : Nat → Int32) (fa : Int32) (N : Nat) (B : Nat) (N1 : Nat) (B1 : Nat) (N2 : Nat) (B2 : Nat) (K : Nat → Int32) (S : Nat) (M : Nat) (E : Nat → Int32) (Z : Nat → Int32) (mm : Int32) (what : Int32) : Met l yX11_quiet (Cond.code yX11_quiet cX11_quiet 7 (some .long) :: GT) ({ frames := 4, cells := 0, slots := 0, locals := 99 } : Room) (PcI [.ref (ax 112), .int mm, .int what] dC dI G (X11I dC dI G ax T Y fa N B N1 B1 N2 B2 K S M E Z) sz) (va_Ql (fun (r : Int64) (_ : Unit) => True) (fun _ t => X11I dC dI G ax T Y fa N B N1 B1 N2 B2 K S M E Z t.heap) (adX 112 129 ax sz)) 0 0 (adX 112 129 ax sz) := by
  refine Met.pick (fun a st hp => ?_)
  obtain ⟨e0, hsz, hI, hK⟩ := hp
  subst hsz
  have hI0 := hI
  unfold X11I at hI
  obtain ⟨p0, p1, p2, p3, p4, p5, p6, p7, p8, p9, p10, p11, p12, p13, p14, p15, p16⟩ := hI
  unfold X11Pr at p0
  obtain ⟨zi112_4, zi112_5, zi112_6, zi112_7, zi112_8, zi112_9, zi112_13, zi112_14, zi112_15, zn112_16, zi112_17, zi112_18, zi112_34, p0j0, p0j1, p0j2, p0j3, p0j4, p0j5, p0j6, q112⟩ := p0
  unfold X11P0 at p1
  obtain ⟨zf113, p1j0, q113⟩ := p1
  unfold X11P21 at p6
  obtain ⟨zf118, q118⟩ := p6
  unfold X11P22 at p7
  obtain ⟨zf119, q119⟩ := p7
  refine ⟨_, _, _, c_X11_quiet l dC dI G _ (ax 112) (ax 113) N B (ax 114) (ax 115) T (ax 116) (ax 117) (ax 118) (ax 119) (ax 120) (ax 121) S (ax 122) M (ax 123) (ax 124) (ax 125) (ax 126) (ax 127) (ax 128) mm what zi112_4 zi112_5 zi112_6 zi112_7 zi112_8 zi112_9 fa zi112_13 zi112_14 zi112_15 (nI zn112_16) zi112_17 zi112_18 zi112_34 zf113 zf118 zf119 (by assumption) (by assumption) (by assumption) (by assumption) (by assumption) (by assumption), ⟨e0, rfl, (vpc q112 (vpc q113 (vpc q118 (vpc q119 va_nilP)))), hK, vD_ix hi [112, 113, 118, 119] (by rfl) (by decide) (by decide)⟩, ad_ix [112, 113, 118, 119] (by rfl) (by decide), fun o t hq => ?_⟩
  obtain ⟨⟨r, ⟨ood, oth⟩, ho, ⟨hr, hu⟩, hP1, -⟩, hF⟩ := hq
  have FR : ∀ lo hi' : Nat, hi' ≤ 129 → ([112, 113, 118, 119] : List Nat).all (fun x => decide (x < lo) || decide (hi' ≤ x)) = true → ∀ j : Nat, lo ≤ j → j < hi' → ax j < st.heap.size → t.heap[ax j]? = st.heap[ax j]? := fun lo hi' h1 h2 => fr_ix hi h1 hF.2 [112, 113, 118, 119] (by rfl) (by decide) h2
  have np0 : X11Pr dC dI G ax N B T fa S M t.heap := ⟨zi112_4, zi112_5, zi112_6, zi112_7, zi112_8, zi112_9, zi112_13, zi112_14, zi112_15, zn112_16, zi112_17, zi112_18, zi112_34, p0j0, p0j1, p0j2, p0j3, p0j4, p0j5, p0j6, hP1 0 _ rfl⟩
  have np1 : X11P0 dC dI G ax t.heap := ⟨zf113, p1j0, hP1 1 _ rfl⟩
  have np6 : X11P21 dC dI G ax t.heap := ⟨ood, hP1 2 _ rfl⟩
  have np7 : X11P22 dC dI G ax t.heap := ⟨oth, hP1 3 _ rfl⟩
  exact ⟨⟨r, (), ho, trivial, ⟨np0, np1, p2.kept (FR 114 115 (by decide) (by decide)), p3.kept (FR 115 116 (by decide) (by decide)), p4.kept (FR 116 117 (by decide) (by decide)), p5.kept (FR 117 118 (by decide) (by decide)), np6, np7, p8.kept (FR 120 121 (by decide) (by decide)), p9.kept (FR 121 122 (by decide) (by decide)), p10.kept (FR 122 123 (by decide) (by decide)), p11.kept (FR 123 124 (by decide) (by decide)), p12.kept (FR 124 125 (by decide) (by decide)), p13.kept (FR 125 126 (by decide) (by decide)), p14.kept (FR 126 127 (by decide) (by decide)), p15.kept (FR 127 128 (by decide) (by decide)), p16.kept (FR 128 129 (by decide) (by decide))⟩⟩, hF.wide (ad_ix [112, 113, 118, 119] (by rfl) (by decide))⟩

set_option maxHeartbeats 1000000 in
set_option maxRecDepth 100000 in
theorem k_X11_drop (l : Launch) (dC : Nat → ClassId) (dI : Nat → Nat → Nat) (G : Nat → ClassId) (sz : Nat) (ax : Nat → Nat) (hi : adInj 129 ax) (T : Nat) (Y : Nat → Int32) (fa : Int32) (N : Nat) (B : Nat) (N1 : Nat) (B1 : Nat) (N2 : Nat) (B2 : Nat) (K : Nat → Int32) (S : Nat) (M : Nat) (E : Nat → Int32) (Z : Nat → Int32) (what : Int32) : Met l yX11_drop (Cond.code yX11_drop cX11_drop 6 (some .long) :: GT) ({ frames := 4, cells := 0, slots := 0, locals := 99 } : Room) (PcI [.ref (ax 112), .int what] dC dI G (X11I dC dI G ax T Y fa N B N1 B1 N2 B2 K S M E Z) sz) (va_Ql (fun (r : Int64) (_ : Unit) => True) (fun _ t => X11I dC dI G ax T Y fa N B N1 B1 N2 B2 K S M E Z t.heap) (adX 112 129 ax sz)) 0 0 (adX 112 129 ax sz) := by
  refine Met.pick (fun a st hp => ?_)
  obtain ⟨e0, hsz, hI, hK⟩ := hp
  subst hsz
  have hI0 := hI
  unfold X11I at hI
  obtain ⟨p0, p1, p2, p3, p4, p5, p6, p7, p8, p9, p10, p11, p12, p13, p14, p15, p16⟩ := hI
  unfold X11Pr at p0
  obtain ⟨zi112_4, zi112_5, zi112_6, zi112_7, zi112_8, zi112_9, zi112_13, zi112_14, zi112_15, zn112_16, zi112_17, zi112_18, zi112_34, p0j0, p0j1, p0j2, p0j3, p0j4, p0j5, p0j6, q112⟩ := p0
  unfold X11P0 at p1
  obtain ⟨zf113, p1j0, q113⟩ := p1
  unfold X11P21 at p6
  obtain ⟨zf118, q118⟩ := p6
  unfold X11P22 at p7
  obtain ⟨zf119, q119⟩ := p7
  refine ⟨_, _, _, c_X11_drop l dC dI G _ (ax 112) (ax 113) N B (ax 114) (ax 115) T (ax 116) (ax 117) (ax 118) (ax 119) (ax 120) (ax 121) S (ax 122) M (ax 123) (ax 124) (ax 125) (ax 126) (ax 127) (ax 128) what zi112_4 zi112_5 zi112_6 zi112_7 zi112_8 zi112_9 fa zi112_13 zi112_14 zi112_15 (nI zn112_16) zi112_17 zi112_18 zi112_34 zf113 zf118 zf119 (by assumption) (by assumption) (by assumption) (by assumption) (by assumption) (by assumption), ⟨e0, rfl, (vpc q112 (vpc q113 (vpc q118 (vpc q119 va_nilP)))), hK, vD_ix hi [112, 113, 118, 119] (by rfl) (by decide) (by decide)⟩, ad_ix [112, 113, 118, 119] (by rfl) (by decide), fun o t hq => ?_⟩
  obtain ⟨⟨r, ⟨ood, oth⟩, ho, ⟨hr, hu⟩, hP1, -⟩, hF⟩ := hq
  have FR : ∀ lo hi' : Nat, hi' ≤ 129 → ([112, 113, 118, 119] : List Nat).all (fun x => decide (x < lo) || decide (hi' ≤ x)) = true → ∀ j : Nat, lo ≤ j → j < hi' → ax j < st.heap.size → t.heap[ax j]? = st.heap[ax j]? := fun lo hi' h1 h2 => fr_ix hi h1 hF.2 [112, 113, 118, 119] (by rfl) (by decide) h2
  have np0 : X11Pr dC dI G ax N B T fa S M t.heap := ⟨zi112_4, zi112_5, zi112_6, zi112_7, zi112_8, zi112_9, zi112_13, zi112_14, zi112_15, zn112_16, zi112_17, zi112_18, zi112_34, p0j0, p0j1, p0j2, p0j3, p0j4, p0j5, p0j6, hP1 0 _ rfl⟩
  have np1 : X11P0 dC dI G ax t.heap := ⟨zf113, p1j0, hP1 1 _ rfl⟩
  have np6 : X11P21 dC dI G ax t.heap := ⟨ood, hP1 2 _ rfl⟩
  have np7 : X11P22 dC dI G ax t.heap := ⟨oth, hP1 3 _ rfl⟩
  exact ⟨⟨r, (), ho, trivial, ⟨np0, np1, p2.kept (FR 114 115 (by decide) (by decide)), p3.kept (FR 115 116 (by decide) (by decide)), p4.kept (FR 116 117 (by decide) (by decide)), p5.kept (FR 117 118 (by decide) (by decide)), np6, np7, p8.kept (FR 120 121 (by decide) (by decide)), p9.kept (FR 121 122 (by decide) (by decide)), p10.kept (FR 122 123 (by decide) (by decide)), p11.kept (FR 123 124 (by decide) (by decide)), p12.kept (FR 124 125 (by decide) (by decide)), p13.kept (FR 125 126 (by decide) (by decide)), p14.kept (FR 126 127 (by decide) (by decide)), p15.kept (FR 127 128 (by decide) (by decide)), p16.kept (FR 128 129 (by decide) (by decide))⟩⟩, hF.wide (ad_ix [112, 113, 118, 119] (by rfl) (by decide))⟩

set_option maxHeartbeats 1000000 in
set_option maxRecDepth 100000 in
theorem k_X11_swap (l : Launch) (dC : Nat → ClassId) (dI : Nat → Nat → Nat) (G : Nat → ClassId) (sz : Nat) (ax : Nat → Nat) (hi : adInj 129 ax) (T : Nat) (Y : Nat → Int32) (fa : Int32) (N : Nat) (B : Nat) (N1 : Nat) (B1 : Nat) (N2 : Nat) (B2 : Nat) (K : Nat → Int32) (S : Nat) (M : Nat) (E : Nat → Int32) (Z : Nat → Int32) (what : Int32) : Met l yX11_swap (Cond.code yX11_swap cX11_swap 7 (some .long) :: GT) ({ frames := 4, cells := 0, slots := 0, locals := 99 } : Room) (PcI [.ref (ax 112), .int what] dC dI G (X11I dC dI G ax T Y fa N B N1 B1 N2 B2 K S M E Z) sz) (va_Ql (fun (r : Int64) (_ : Unit) => True) (fun _ t => X11I dC dI G ax T Y fa N B N1 B1 N2 B2 K S M E Z t.heap) (adX 112 129 ax sz)) 0 0 (adX 112 129 ax sz) := by
  refine Met.pick (fun a st hp => ?_)
  obtain ⟨e0, hsz, hI, hK⟩ := hp
  subst hsz
  have hI0 := hI
  unfold X11I at hI
  obtain ⟨p0, p1, p2, p3, p4, p5, p6, p7, p8, p9, p10, p11, p12, p13, p14, p15, p16⟩ := hI
  unfold X11Pr at p0
  obtain ⟨zi112_4, zi112_5, zi112_6, zi112_7, zi112_8, zi112_9, zi112_13, zi112_14, zi112_15, zn112_16, zi112_17, zi112_18, zi112_34, p0j0, p0j1, p0j2, p0j3, p0j4, p0j5, p0j6, q112⟩ := p0
  unfold X11P0 at p1
  obtain ⟨zf113, p1j0, q113⟩ := p1
  unfold X11P21 at p6
  obtain ⟨zf118, q118⟩ := p6
  unfold X11P22 at p7
  obtain ⟨zf119, q119⟩ := p7
  refine ⟨_, _, _, c_X11_swap l dC dI G _ (ax 112) (ax 113) N B (ax 114) (ax 115) T (ax 116) (ax 117) (ax 118) (ax 119) (ax 120) (ax 121) S (ax 122) M (ax 123) (ax 124) (ax 125) (ax 126) (ax 127) (ax 128) what zi112_4 zi112_5 zi112_6 zi112_7 zi112_8 zi112_9 fa zi112_13 zi112_14 zi112_15 (nI zn112_16) zi112_17 zi112_18 zi112_34 zf113 zf118 zf119 (by assumption) (by assumption) (by assumption) (by assumption) (by assumption) (by assumption), ⟨e0, rfl, (vpc q112 (vpc q113 (vpc q118 (vpc q119 va_nilP)))), hK, vD_ix hi [112, 113, 118, 119] (by rfl) (by decide) (by decide)⟩, ad_ix [112, 113, 118, 119] (by rfl) (by decide), fun o t hq => ?_⟩
  obtain ⟨⟨r, ⟨ost, ood, oth⟩, ho, ⟨hr, hu⟩, hP1, -⟩, hF⟩ := hq
  have FR : ∀ lo hi' : Nat, hi' ≤ 129 → ([112, 113, 118, 119] : List Nat).all (fun x => decide (x < lo) || decide (hi' ≤ x)) = true → ∀ j : Nat, lo ≤ j → j < hi' → ax j < st.heap.size → t.heap[ax j]? = st.heap[ax j]? := fun lo hi' h1 h2 => fr_ix hi h1 hF.2 [112, 113, 118, 119] (by rfl) (by decide) h2
  have np0 : X11Pr dC dI G ax N B T fa S M t.heap := ⟨zi112_4, zi112_5, zi112_6, zi112_7, zi112_8, zi112_9, zi112_13, zi112_14, zi112_15, zn112_16, zi112_17, zi112_18, zi112_34, p0j0, p0j1, p0j2, p0j3, p0j4, p0j5, p0j6, hP1 0 _ rfl⟩
  have np1 : X11P0 dC dI G ax t.heap := ⟨ost, (by first | omega | exact hu | exact hu.1 | exact hu.1.1 | exact hu.1.2 | exact hu.2 | exact fd_nn (by assumption) | (split at hu <;> omega) | (split <;> omega) | exact E_inv (by assumption)), hP1 1 _ rfl⟩
  have np6 : X11P21 dC dI G ax t.heap := ⟨ood, hP1 2 _ rfl⟩
  have np7 : X11P22 dC dI G ax t.heap := ⟨oth, hP1 3 _ rfl⟩
  exact ⟨⟨r, (), ho, trivial, ⟨np0, np1, p2.kept (FR 114 115 (by decide) (by decide)), p3.kept (FR 115 116 (by decide) (by decide)), p4.kept (FR 116 117 (by decide) (by decide)), p5.kept (FR 117 118 (by decide) (by decide)), np6, np7, p8.kept (FR 120 121 (by decide) (by decide)), p9.kept (FR 121 122 (by decide) (by decide)), p10.kept (FR 122 123 (by decide) (by decide)), p11.kept (FR 123 124 (by decide) (by decide)), p12.kept (FR 124 125 (by decide) (by decide)), p13.kept (FR 125 126 (by decide) (by decide)), p14.kept (FR 126 127 (by decide) (by decide)), p15.kept (FR 127 128 (by decide) (by decide)), p16.kept (FR 128 129 (by decide) (by decide))⟩⟩, hF.wide (ad_ix [112, 113, 118, 119] (by rfl) (by decide))⟩

set_option maxHeartbeats 1000000 in
set_option maxRecDepth 100000 in
theorem k_X11_carry (l : Launch) (dC : Nat → ClassId) (dI : Nat → Nat → Nat) (G : Nat → ClassId) (sz : Nat) (ax : Nat → Nat) (hi : adInj 129 ax) (T : Nat) (Y : Nat → Int32) (fa : Int32) (N : Nat) (B : Nat) (N1 : Nat) (B1 : Nat) (N2 : Nat) (B2 : Nat) (K : Nat → Int32) (S : Nat) (M : Nat) (E : Nat → Int32) (Z : Nat → Int32) (sd : Int32) (what : Int32) : Met l yX11_carry (Cond.code yX11_carry cX11_carry 9 (some .int) :: GT) ({ frames := 3, cells := 0, slots := 0, locals := 72 } : Room) (PcI [.ref (ax 112), .int sd, .int what] dC dI G (X11I dC dI G ax T Y fa N B N1 B1 N2 B2 K S M E Z) sz) (va_Qi (fun (r : Int32) (_ : Unit) => True) (fun _ t => X11I dC dI G ax T Y fa N B N1 B1 N2 B2 K S M E Z t.heap) (adX 112 129 ax sz)) 0 0 (adX 112 129 ax sz) := by
  refine Met.pick (fun a st hp => ?_)
  obtain ⟨e0, hsz, hI, hK⟩ := hp
  subst hsz
  have hI0 := hI
  unfold X11I at hI
  obtain ⟨p0, p1, p2, p3, p4, p5, p6, p7, p8, p9, p10, p11, p12, p13, p14, p15, p16⟩ := hI
  unfold X11Pr at p0
  obtain ⟨zi112_4, zi112_5, zi112_6, zi112_7, zi112_8, zi112_9, zi112_13, zi112_14, zi112_15, zn112_16, zi112_17, zi112_18, zi112_34, p0j0, p0j1, p0j2, p0j3, p0j4, p0j5, p0j6, q112⟩ := p0
  unfold X11P0 at p1
  obtain ⟨zf113, p1j0, q113⟩ := p1
  refine ⟨_, _, _, c_X11_carry l dC dI G _ (ax 112) (ax 113) N B (ax 114) (ax 115) T (ax 116) (ax 117) (ax 118) (ax 119) (ax 120) (ax 121) S (ax 122) M (ax 123) (ax 124) (ax 125) (ax 126) (ax 127) (ax 128) sd what zi112_4 zi112_5 zi112_6 zi112_7 zi112_8 zi112_9 fa zi112_13 zi112_14 zi112_15 (nI zn112_16) zi112_17 zi112_18 zi112_34 zf113 (by assumption) (by assumption) (by assumption) (by assumption) (by assumption) (by assumption), ⟨e0, rfl, (vpc q112 (vpc q113 va_nilP)), hK⟩, fun q h => Or.inr h, fun o t hq => ?_⟩
  obtain ⟨⟨r, u, ho, ⟨hr, hu⟩, -⟩, hF⟩ := hq
  exact ⟨⟨r, (), ho, trivial, hI0.kept (fun j _ _ h => hF.2 _ h (Nat.not_le.mpr h))⟩, hF.wide (fun q h => Or.inr h)⟩

set_option maxHeartbeats 1000000 in
set_option maxRecDepth 100000 in
theorem k_X11_learnE (l : Launch) (dC : Nat → ClassId) (dI : Nat → Nat → Nat) (G : Nat → ClassId) (sz : Nat) (ax : Nat → Nat) (hi : adInj 129 ax) (T : Nat) (Y : Nat → Int32) (fa : Int32) (N : Nat) (B : Nat) (N1 : Nat) (B1 : Nat) (N2 : Nat) (B2 : Nat) (K : Nat → Int32) (S : Nat) (M : Nat) (E : Nat → Int32) (Z : Nat → Int32) (i : Int32) (g : Int32) (k : Int32) (hm : Int32) : Met l yX11_learn (Cond.code yX11_learn cX11_learn 6 (some .int) :: GT) ({ frames := 3, cells := 0, slots := 0, locals := 69 } : Room) (PcI [.ref (ax 112), .int i, .int g, .int k, .int hm] dC dI G (X11I dC dI G ax T Y fa N B N1 B1 N2 B2 K S M E Z) sz) (va_Qi (fun (r : Int32) (_ : Unit) => r = if ((0 ≤ i.toInt ∧ i.toInt < ((N : Nat) : Int)) ∧ (g.toInt = -4 ∨ (0 ≤ g.toInt ∧ g.toInt < ((B : Nat) : Int))) ∧ (0 ≤ k.toInt ∧ k.toInt < ((B : Nat) : Int)) ∧ 0 ≤ hm.toInt ∧ hm.toInt ≤ 20) then (if S < 8 then nI (S + 1) else -3) else -1) (fun _ t => X11I dC dI G ax T Y fa N B N1 B1 N2 B2 K (if ((0 ≤ i.toInt ∧ i.toInt < ((N : Nat) : Int)) ∧ (g.toInt = -4 ∨ (0 ≤ g.toInt ∧ g.toInt < ((B : Nat) : Int))) ∧ (0 ≤ k.toInt ∧ k.toInt < ((B : Nat) : Int)) ∧ 0 ≤ hm.toInt ∧ hm.toInt ≤ 20) ∧ S < 8 then S + 1 else S) M E Z t.heap) (adX 112 129 ax sz)) 0 0 (adX 112 129 ax sz) := by
  refine Met.pick (fun a st hp => ?_)
  obtain ⟨e0, hsz, hI, hK⟩ := hp
  subst hsz
  have hI0 := hI
  unfold X11I at hI
  obtain ⟨p0, p1, p2, p3, p4, p5, p6, p7, p8, p9, p10, p11, p12, p13, p14, p15, p16⟩ := hI
  unfold X11Pr at p0
  obtain ⟨zi112_4, zi112_5, zi112_6, zi112_7, zi112_8, zi112_9, zi112_13, zi112_14, zi112_15, zn112_16, zi112_17, zi112_18, zi112_34, p0j0, p0j1, p0j2, p0j3, p0j4, p0j5, p0j6, q112⟩ := p0
  unfold X11P24 at p9
  obtain ⟨zf121, p9j0, q121⟩ := p9
  refine ⟨_, _, _, c_X11_learnE l dC dI G _ (ax 112) (ax 113) N B (ax 114) (ax 115) T (ax 116) (ax 117) (ax 118) (ax 119) (ax 120) (ax 121) S (ax 122) M (ax 123) (ax 124) (ax 125) (ax 126) (ax 127) (ax 128) i g k hm zi112_4 zi112_5 zi112_6 zi112_7 zi112_8 zi112_9 fa zi112_13 zi112_14 zi112_15 (nI zn112_16) zi112_17 zi112_18 zi112_34 zf121 (by assumption) (by assumption) (by assumption) (by assumption) (by assumption) (by assumption), ⟨e0, rfl, (vpc q112 (vpc q121 va_nilP)), hK, vD_ix hi [112, 121] (by rfl) (by decide) (by decide)⟩, ad_ix [112, 121] (by rfl) (by decide), fun o t hq => ?_⟩
  obtain ⟨⟨r, ⟨oS, oln⟩, ho, ⟨hr, hu⟩, hP1, -⟩, hF⟩ := hq
  have FR : ∀ lo hi' : Nat, hi' ≤ 129 → ([112, 121] : List Nat).all (fun x => decide (x < lo) || decide (hi' ≤ x)) = true → ∀ j : Nat, lo ≤ j → j < hi' → ax j < st.heap.size → t.heap[ax j]? = st.heap[ax j]? := fun lo hi' h1 h2 => fr_ix hi h1 hF.2 [112, 121] (by rfl) (by decide) h2
  have xS : (if ((0 ≤ i.toInt ∧ i.toInt < ((N : Nat) : Int)) ∧ (g.toInt = -4 ∨ (0 ≤ g.toInt ∧ g.toInt < ((B : Nat) : Int))) ∧ (0 ≤ k.toInt ∧ k.toInt < ((B : Nat) : Int)) ∧ 0 ≤ hm.toInt ∧ hm.toInt ≤ 20) ∧ S < 8 then S + 1 else S) = oS := Eq.symm (by first | exact hu | exact hu.1 | exact hu.2 | exact hu.1.1 | exact hu.1.2 | exact hu.2.1.trans (txt_cf (by assumption)) | exact hu.2.1.trans (txt_rf (by assumption)) | exact hu.1.1.trans lmap_step | omega)
  subst xS
  have np0 : X11Pr dC dI G ax N B T fa (if ((0 ≤ i.toInt ∧ i.toInt < ((N : Nat) : Int)) ∧ (g.toInt = -4 ∨ (0 ≤ g.toInt ∧ g.toInt < ((B : Nat) : Int))) ∧ (0 ≤ k.toInt ∧ k.toInt < ((B : Nat) : Int)) ∧ 0 ≤ hm.toInt ∧ hm.toInt ≤ 20) ∧ S < 8 then S + 1 else S) M t.heap := ⟨zi112_4, zi112_5, zi112_6, zi112_7, zi112_8, zi112_9, zi112_13, zi112_14, zi112_15, zn112_16, zi112_17, zi112_18, zi112_34, p0j0, p0j1, p0j2, (by first | omega | exact hu | exact hu.1 | exact hu.1.1 | exact hu.1.2 | exact hu.2 | exact fd_nn (by assumption) | (split at hu <;> omega) | (split <;> omega) | exact E_inv (by assumption)), p0j4, p0j5, p0j6, hP1 0 _ rfl⟩
  have np9 : X11P24 dC dI G ax t.heap := ⟨oln, (by first | omega | exact hu | exact hu.1 | exact hu.1.1 | exact hu.1.2 | exact hu.2 | exact fd_nn (by assumption) | (split at hu <;> omega) | (split <;> omega) | exact E_inv (by assumption)), hP1 1 _ rfl⟩
  exact ⟨⟨r, (), ho, hr, ⟨np0, p1.kept (FR 113 114 (by decide) (by decide)), p2.kept (FR 114 115 (by decide) (by decide)), p3.kept (FR 115 116 (by decide) (by decide)), p4.kept (FR 116 117 (by decide) (by decide)), p5.kept (FR 117 118 (by decide) (by decide)), p6.kept (FR 118 119 (by decide) (by decide)), p7.kept (FR 119 120 (by decide) (by decide)), p8.kept (FR 120 121 (by decide) (by decide)), np9, p10.kept (FR 122 123 (by decide) (by decide)), p11.kept (FR 123 124 (by decide) (by decide)), p12.kept (FR 124 125 (by decide) (by decide)), p13.kept (FR 125 126 (by decide) (by decide)), p14.kept (FR 126 127 (by decide) (by decide)), p15.kept (FR 127 128 (by decide) (by decide)), p16.kept (FR 128 129 (by decide) (by decide))⟩⟩, hF.wide (ad_ix [112, 121] (by rfl) (by decide))⟩

set_option maxHeartbeats 1000000 in
set_option maxRecDepth 100000 in
theorem k_X11_forgetE (l : Launch) (dC : Nat → ClassId) (dI : Nat → Nat → Nat) (G : Nat → ClassId) (sz : Nat) (ax : Nat → Nat) (hi : adInj 129 ax) (T : Nat) (Y : Nat → Int32) (fa : Int32) (N : Nat) (B : Nat) (N1 : Nat) (B1 : Nat) (N2 : Nat) (B2 : Nat) (K : Nat → Int32) (S : Nat) (M : Nat) (E : Nat → Int32) (Z : Nat → Int32) (n : Int32) : Met l yX11_forget (Cond.code yX11_forget cX11_forget 3 (some .int) :: GT) ({ frames := 1, cells := 0, slots := 0, locals := 25 } : Room) (PcI [.ref (ax 112), .int n] dC dI G (X11I dC dI G ax T Y fa N B N1 B1 N2 B2 K S M E Z) sz) (va_Qi (fun (r : Int32) (_ : Unit) => r = if 0 ≤ n.toInt ∧ n.toInt ≤ ((S : Nat) : Int) then nI S else -1) (fun _ t => X11I dC dI G ax T Y fa N B N1 B1 N2 B2 K (if 0 ≤ n.toInt ∧ n.toInt ≤ ((S : Nat) : Int) then n.toNatClampNeg else S) M E Z t.heap) (adX 112 129 ax sz)) 0 0 (adX 112 129 ax sz) := by
  refine Met.pick (fun a st hp => ?_)
  obtain ⟨e0, hsz, hI, hK⟩ := hp
  subst hsz
  have hI0 := hI
  unfold X11I at hI
  obtain ⟨p0, p1, p2, p3, p4, p5, p6, p7, p8, p9, p10, p11, p12, p13, p14, p15, p16⟩ := hI
  unfold X11Pr at p0
  obtain ⟨zi112_4, zi112_5, zi112_6, zi112_7, zi112_8, zi112_9, zi112_13, zi112_14, zi112_15, zn112_16, zi112_17, zi112_18, zi112_34, p0j0, p0j1, p0j2, p0j3, p0j4, p0j5, p0j6, q112⟩ := p0
  refine ⟨_, _, _, c_X11_forgetE l dC dI G _ (ax 112) (ax 113) N B (ax 114) (ax 115) T (ax 116) (ax 117) (ax 118) (ax 119) (ax 120) (ax 121) S (ax 122) M (ax 123) (ax 124) (ax 125) (ax 126) (ax 127) (ax 128) n zi112_4 zi112_5 zi112_6 zi112_7 zi112_8 zi112_9 fa zi112_13 zi112_14 zi112_15 (nI zn112_16) zi112_17 zi112_18 zi112_34 (by assumption) (by assumption) (by assumption) (by assumption) (by assumption), ⟨e0, rfl, (vpc q112 va_nilP), hK, vD_ix hi [112] (by rfl) (by decide) (by decide)⟩, ad_ix [112] (by rfl) (by decide), fun o t hq => ?_⟩
  obtain ⟨⟨r, oS, ho, ⟨hr, hu⟩, hP1, -⟩, hF⟩ := hq
  have FR : ∀ lo hi' : Nat, hi' ≤ 129 → ([112] : List Nat).all (fun x => decide (x < lo) || decide (hi' ≤ x)) = true → ∀ j : Nat, lo ≤ j → j < hi' → ax j < st.heap.size → t.heap[ax j]? = st.heap[ax j]? := fun lo hi' h1 h2 => fr_ix hi h1 hF.2 [112] (by rfl) (by decide) h2
  have xS : (if 0 ≤ n.toInt ∧ n.toInt ≤ ((S : Nat) : Int) then n.toNatClampNeg else S) = oS := Eq.symm (by first | exact hu | exact hu.1 | exact hu.2 | exact hu.1.1 | exact hu.1.2 | exact hu.2.1.trans (txt_cf (by assumption)) | exact hu.2.1.trans (txt_rf (by assumption)) | exact hu.1.1.trans lmap_step | omega)
  subst xS
  have np0 : X11Pr dC dI G ax N B T fa (if 0 ≤ n.toInt ∧ n.toInt ≤ ((S : Nat) : Int) then n.toNatClampNeg else S) M t.heap := ⟨zi112_4, zi112_5, zi112_6, zi112_7, zi112_8, zi112_9, zi112_13, zi112_14, zi112_15, zn112_16, zi112_17, zi112_18, zi112_34, p0j0, p0j1, p0j2, (by first | omega | exact hu | exact hu.1 | exact hu.1.1 | exact hu.1.2 | exact hu.2 | exact fd_nn (by assumption) | (split at hu <;> omega) | (split <;> omega) | exact E_inv (by assumption)), p0j4, p0j5, p0j6, hP1 0 _ rfl⟩
  exact ⟨⟨r, (), ho, hr, ⟨np0, p1.kept (FR 113 114 (by decide) (by decide)), p2.kept (FR 114 115 (by decide) (by decide)), p3.kept (FR 115 116 (by decide) (by decide)), p4.kept (FR 116 117 (by decide) (by decide)), p5.kept (FR 117 118 (by decide) (by decide)), p6.kept (FR 118 119 (by decide) (by decide)), p7.kept (FR 119 120 (by decide) (by decide)), p8.kept (FR 120 121 (by decide) (by decide)), p9.kept (FR 121 122 (by decide) (by decide)), p10.kept (FR 122 123 (by decide) (by decide)), p11.kept (FR 123 124 (by decide) (by decide)), p12.kept (FR 124 125 (by decide) (by decide)), p13.kept (FR 125 126 (by decide) (by decide)), p14.kept (FR 126 127 (by decide) (by decide)), p15.kept (FR 127 128 (by decide) (by decide)), p16.kept (FR 128 129 (by decide) (by decide))⟩⟩, hF.wide (ad_ix [112] (by rfl) (by decide))⟩

set_option maxHeartbeats 1000000 in
set_option maxRecDepth 100000 in
theorem k_X11_steps (l : Launch) (dC : Nat → ClassId) (dI : Nat → Nat → Nat) (G : Nat → ClassId) (sz : Nat) (ax : Nat → Nat) (hi : adInj 129 ax) (T : Nat) (Y : Nat → Int32) (fa : Int32) (N : Nat) (B : Nat) (N1 : Nat) (B1 : Nat) (N2 : Nat) (B2 : Nat) (K : Nat → Int32) (S : Nat) (M : Nat) (E : Nat → Int32) (Z : Nat → Int32) (b : Int32) (what : Int32) : Met l yX11_steps (Cond.code yX11_steps cX11_steps 11 (some .int) :: GT) ({ frames := 2, cells := 0, slots := 0, locals := 50 } : Room) (PcI [.ref (ax 112), .int b, .int what] dC dI G (X11I dC dI G ax T Y fa N B N1 B1 N2 B2 K S M E Z) sz) (va_Qi (fun (r : Int32) (_ : Unit) => True) (fun _ t => X11I dC dI G ax T Y fa N B N1 B1 N2 B2 K S M E Z t.heap) (adX 112 129 ax sz)) 0 0 (adX 112 129 ax sz) := by
  refine Met.pick (fun a st hp => ?_)
  obtain ⟨e0, hsz, hI, hK⟩ := hp
  subst hsz
  have hI0 := hI
  unfold X11I at hI
  obtain ⟨p0, p1, p2, p3, p4, p5, p6, p7, p8, p9, p10, p11, p12, p13, p14, p15, p16⟩ := hI
  unfold X11Pr at p0
  obtain ⟨zi112_4, zi112_5, zi112_6, zi112_7, zi112_8, zi112_9, zi112_13, zi112_14, zi112_15, zn112_16, zi112_17, zi112_18, zi112_34, p0j0, p0j1, p0j2, p0j3, p0j4, p0j5, p0j6, q112⟩ := p0
  unfold X11P0 at p1
  obtain ⟨zf113, p1j0, q113⟩ := p1
  unfold X11P24 at p9
  obtain ⟨zf121, p9j0, q121⟩ := p9
  refine ⟨_, _, _, c_X11_steps l dC dI G _ (ax 112) (ax 113) N B (ax 114) (ax 115) T (ax 116) (ax 117) (ax 118) (ax 119) (ax 120) (ax 121) S (ax 122) M (ax 123) (ax 124) (ax 125) (ax 126) (ax 127) (ax 128) b what zi112_4 zi112_5 zi112_6 zi112_7 zi112_8 zi112_9 fa zi112_13 zi112_14 zi112_15 (nI zn112_16) zi112_17 zi112_18 zi112_34 zf113 zf121 (by assumption) (by assumption) (by assumption) (by assumption) (by assumption) (by assumption) (by assumption), ⟨e0, rfl, (vpc q112 (vpc q113 (vpc q121 va_nilP))), hK, vD_ix hi [112, 113, 121] (by rfl) (by decide) (by decide)⟩, ad_ix [112, 113, 121] (by rfl) (by decide), fun o t hq => ?_⟩
  obtain ⟨⟨r, ost, ho, ⟨hr, hu⟩, hP1, -⟩, hF⟩ := hq
  have FR : ∀ lo hi' : Nat, hi' ≤ 129 → ([112, 113, 121] : List Nat).all (fun x => decide (x < lo) || decide (hi' ≤ x)) = true → ∀ j : Nat, lo ≤ j → j < hi' → ax j < st.heap.size → t.heap[ax j]? = st.heap[ax j]? := fun lo hi' h1 h2 => fr_ix hi h1 hF.2 [112, 113, 121] (by rfl) (by decide) h2
  have np0 : X11Pr dC dI G ax N B T fa S M t.heap := ⟨zi112_4, zi112_5, zi112_6, zi112_7, zi112_8, zi112_9, zi112_13, zi112_14, zi112_15, zn112_16, zi112_17, zi112_18, zi112_34, p0j0, p0j1, p0j2, p0j3, p0j4, p0j5, p0j6, hP1 0 _ rfl⟩
  have np1 : X11P0 dC dI G ax t.heap := ⟨ost, (by first | omega | exact hu | exact hu.1 | exact hu.1.1 | exact hu.1.2 | exact hu.2 | exact fd_nn (by assumption) | (split at hu <;> omega) | (split <;> omega) | exact E_inv (by assumption)), hP1 1 _ rfl⟩
  have np9 : X11P24 dC dI G ax t.heap := ⟨zf121, p9j0, hP1 2 _ rfl⟩
  exact ⟨⟨r, (), ho, trivial, ⟨np0, np1, p2.kept (FR 114 115 (by decide) (by decide)), p3.kept (FR 115 116 (by decide) (by decide)), p4.kept (FR 116 117 (by decide) (by decide)), p5.kept (FR 117 118 (by decide) (by decide)), p6.kept (FR 118 119 (by decide) (by decide)), p7.kept (FR 119 120 (by decide) (by decide)), p8.kept (FR 120 121 (by decide) (by decide)), np9, p10.kept (FR 122 123 (by decide) (by decide)), p11.kept (FR 123 124 (by decide) (by decide)), p12.kept (FR 124 125 (by decide) (by decide)), p13.kept (FR 125 126 (by decide) (by decide)), p14.kept (FR 126 127 (by decide) (by decide)), p15.kept (FR 127 128 (by decide) (by decide)), p16.kept (FR 128 129 (by decide) (by decide))⟩⟩, hF.wide (ad_ix [112, 113, 121] (by rfl) (by decide))⟩

set_option maxHeartbeats 1000000 in
set_option maxRecDepth 100000 in
theorem k_X11_markE (l : Launch) (dC : Nat → ClassId) (dI : Nat → Nat → Nat) (G : Nat → ClassId) (sz : Nat) (ax : Nat → Nat) (hi : adInj 129 ax) (T : Nat) (Y : Nat → Int32) (fa : Int32) (N : Nat) (B : Nat) (N1 : Nat) (B1 : Nat) (N2 : Nat) (B2 : Nat) (K : Nat → Int32) (S : Nat) (M : Nat) (E : Nat → Int32) (Z : Nat → Int32) (i : Int32) (d : Int32) : Met l yX11_mark (Cond.code yX11_mark cX11_mark 3 (some .int) :: GT) ({ frames := 2, cells := 0, slots := 0, locals := 46 } : Room) (PcI [.ref (ax 112), .int i, .int d] dC dI G (X11I dC dI G ax T Y fa N B N1 B1 N2 B2 K S M E Z) sz) (va_Qi (fun (r : Int32) (_ : Unit) => r = if ((0 ≤ i.toInt ∧ i.toInt < ((N : Nat) : Int)) ∧ 0 ≤ d.toInt ∧ d.toInt ≤ 9) then (if M < 6 then nI (M + 1) else -3) else -1) (fun _ t => X11I dC dI G ax T Y fa N B N1 B1 N2 B2 K S (if ((0 ≤ i.toInt ∧ i.toInt < ((N : Nat) : Int)) ∧ 0 ≤ d.toInt ∧ d.toInt ≤ 9) ∧ M < 6 then M + 1 else M) E Z t.heap) (adX 112 129 ax sz)) 0 0 (adX 112 129 ax sz) := by
  refine Met.pick (fun a st hp => ?_)
  obtain ⟨e0, hsz, hI, hK⟩ := hp
  subst hsz
  have hI0 := hI
  unfold X11I at hI
  obtain ⟨p0, p1, p2, p3, p4, p5, p6, p7, p8, p9, p10, p11, p12, p13, p14, p15, p16⟩ := hI
  unfold X11Pr at p0
  obtain ⟨zi112_4, zi112_5, zi112_6, zi112_7, zi112_8, zi112_9, zi112_13, zi112_14, zi112_15, zn112_16, zi112_17, zi112_18, zi112_34, p0j0, p0j1, p0j2, p0j3, p0j4, p0j5, p0j6, q112⟩ := p0
  unfold X11P26 at p10
  obtain ⟨zf122, q122⟩ := p10
  refine ⟨_, _, _, c_X11_markE l dC dI G _ (ax 112) (ax 113) N B (ax 114) (ax 115) T (ax 116) (ax 117) (ax 118) (ax 119) (ax 120) (ax 121) S (ax 122) M (ax 123) (ax 124) (ax 125) (ax 126) (ax 127) (ax 128) i d zi112_4 zi112_5 zi112_6 zi112_7 zi112_8 zi112_9 fa zi112_13 zi112_14 zi112_15 (nI zn112_16) zi112_17 zi112_18 zi112_34 zf122 (by assumption) (by assumption) (by assumption) (by assumption) (by assumption), ⟨e0, rfl, (vpc q112 (vpc q122 va_nilP)), hK, vD_ix hi [112, 122] (by rfl) (by decide) (by decide)⟩, ad_ix [112, 122] (by rfl) (by decide), fun o t hq => ?_⟩
  obtain ⟨⟨r, ⟨oM, oma⟩, ho, ⟨hr, hu⟩, hP1, -⟩, hF⟩ := hq
  have FR : ∀ lo hi' : Nat, hi' ≤ 129 → ([112, 122] : List Nat).all (fun x => decide (x < lo) || decide (hi' ≤ x)) = true → ∀ j : Nat, lo ≤ j → j < hi' → ax j < st.heap.size → t.heap[ax j]? = st.heap[ax j]? := fun lo hi' h1 h2 => fr_ix hi h1 hF.2 [112, 122] (by rfl) (by decide) h2
  have xM : (if ((0 ≤ i.toInt ∧ i.toInt < ((N : Nat) : Int)) ∧ 0 ≤ d.toInt ∧ d.toInt ≤ 9) ∧ M < 6 then M + 1 else M) = oM := Eq.symm (by first | exact hu | exact hu.1 | exact hu.2 | exact hu.1.1 | exact hu.1.2 | exact hu.2.1.trans (txt_cf (by assumption)) | exact hu.2.1.trans (txt_rf (by assumption)) | exact hu.1.1.trans lmap_step | omega)
  subst xM
  have np0 : X11Pr dC dI G ax N B T fa S (if ((0 ≤ i.toInt ∧ i.toInt < ((N : Nat) : Int)) ∧ 0 ≤ d.toInt ∧ d.toInt ≤ 9) ∧ M < 6 then M + 1 else M) t.heap := ⟨zi112_4, zi112_5, zi112_6, zi112_7, zi112_8, zi112_9, zi112_13, zi112_14, zi112_15, zn112_16, zi112_17, zi112_18, zi112_34, p0j0, p0j1, p0j2, p0j3, (by first | omega | exact hu | exact hu.1 | exact hu.1.1 | exact hu.1.2 | exact hu.2 | exact fd_nn (by assumption) | (split at hu <;> omega) | (split <;> omega) | exact E_inv (by assumption)), p0j5, p0j6, hP1 0 _ rfl⟩
  have np10 : X11P26 dC dI G ax t.heap := ⟨oma, hP1 1 _ rfl⟩
  exact ⟨⟨r, (), ho, hr, ⟨np0, p1.kept (FR 113 114 (by decide) (by decide)), p2.kept (FR 114 115 (by decide) (by decide)), p3.kept (FR 115 116 (by decide) (by decide)), p4.kept (FR 116 117 (by decide) (by decide)), p5.kept (FR 117 118 (by decide) (by decide)), p6.kept (FR 118 119 (by decide) (by decide)), p7.kept (FR 119 120 (by decide) (by decide)), p8.kept (FR 120 121 (by decide) (by decide)), p9.kept (FR 121 122 (by decide) (by decide)), np10, p11.kept (FR 123 124 (by decide) (by decide)), p12.kept (FR 124 125 (by decide) (by decide)), p13.kept (FR 125 126 (by decide) (by decide)), p14.kept (FR 126 127 (by decide) (by decide)), p15.kept (FR 127 128 (by decide) (by decide)), p16.kept (FR 128 129 (by decide) (by decide))⟩⟩, hF.wide (ad_ix [112, 122] (by rfl) (by decide))⟩

set_option maxHeartbeats 1000000 in
set_option maxRecDepth 100000 in
theorem k_X11_wipeE (l : Launch) (dC : Nat → ClassId) (dI : Nat → Nat → Nat) (G : Nat → ClassId) (sz : Nat) (ax : Nat → Nat) (hi : adInj 129 ax) (T : Nat) (Y : Nat → Int32) (fa : Int32) (N : Nat) (B : Nat) (N1 : Nat) (B1 : Nat) (N2 : Nat) (B2 : Nat) (K : Nat → Int32) (S : Nat) (M : Nat) (E : Nat → Int32) (Z : Nat → Int32) (n : Int32) : Met l yX11_wipe (Cond.code yX11_wipe cX11_wipe 3 (some .int) :: GT) ({ frames := 1, cells := 0, slots := 0, locals := 25 } : Room) (PcI [.ref (ax 112), .int n] dC dI G (X11I dC dI G ax T Y fa N B N1 B1 N2 B2 K S M E Z) sz) (va_Qi (fun (r : Int32) (_ : Unit) => r = if 0 ≤ n.toInt ∧ n.toInt ≤ ((M : Nat) : Int) then nI M else -1) (fun _ t => X11I dC dI G ax T Y fa N B N1 B1 N2 B2 K S (if 0 ≤ n.toInt ∧ n.toInt ≤ ((M : Nat) : Int) then n.toNatClampNeg else M) E Z t.heap) (adX 112 129 ax sz)) 0 0 (adX 112 129 ax sz) := by
  refine Met.pick (fun a st hp => ?_)
  obtain ⟨e0, hsz, hI, hK⟩ := hp
  subst hsz
  have hI0 := hI
  unfold X11I at hI
  obtain ⟨p0, p1, p2, p3, p4, p5, p6, p7, p8, p9, p10, p11, p12, p13, p14, p15, p16⟩ := hI
  unfold X11Pr at p0
  obtain ⟨zi112_4, zi112_5, zi112_6, zi112_7, zi112_8, zi112_9, zi112_13, zi112_14, zi112_15, zn112_16, zi112_17, zi112_18, zi112_34, p0j0, p0j1, p0j2, p0j3, p0j4, p0j5, p0j6, q112⟩ := p0
  refine ⟨_, _, _, c_X11_wipeE l dC dI G _ (ax 112) (ax 113) N B (ax 114) (ax 115) T (ax 116) (ax 117) (ax 118) (ax 119) (ax 120) (ax 121) S (ax 122) M (ax 123) (ax 124) (ax 125) (ax 126) (ax 127) (ax 128) n zi112_4 zi112_5 zi112_6 zi112_7 zi112_8 zi112_9 fa zi112_13 zi112_14 zi112_15 (nI zn112_16) zi112_17 zi112_18 zi112_34 (by assumption) (by assumption) (by assumption) (by assumption) (by assumption), ⟨e0, rfl, (vpc q112 va_nilP), hK, vD_ix hi [112] (by rfl) (by decide) (by decide)⟩, ad_ix [112] (by rfl) (by decide), fun o t hq => ?_⟩
  obtain ⟨⟨r, oM, ho, ⟨hr, hu⟩, hP1, -⟩, hF⟩ := hq
  have FR : ∀ lo hi' : Nat, hi' ≤ 129 → ([112] : List Nat).all (fun x => decide (x < lo) || decide (hi' ≤ x)) = true → ∀ j : Nat, lo ≤ j → j < hi' → ax j < st.heap.size → t.heap[ax j]? = st.heap[ax j]? := fun lo hi' h1 h2 => fr_ix hi h1 hF.2 [112] (by rfl) (by decide) h2
  have xM : (if 0 ≤ n.toInt ∧ n.toInt ≤ ((M : Nat) : Int) then n.toNatClampNeg else M) = oM := Eq.symm (by first | exact hu | exact hu.1 | exact hu.2 | exact hu.1.1 | exact hu.1.2 | exact hu.2.1.trans (txt_cf (by assumption)) | exact hu.2.1.trans (txt_rf (by assumption)) | exact hu.1.1.trans lmap_step | omega)
  subst xM
  have np0 : X11Pr dC dI G ax N B T fa S (if 0 ≤ n.toInt ∧ n.toInt ≤ ((M : Nat) : Int) then n.toNatClampNeg else M) t.heap := ⟨zi112_4, zi112_5, zi112_6, zi112_7, zi112_8, zi112_9, zi112_13, zi112_14, zi112_15, zn112_16, zi112_17, zi112_18, zi112_34, p0j0, p0j1, p0j2, p0j3, (by first | omega | exact hu | exact hu.1 | exact hu.1.1 | exact hu.1.2 | exact hu.2 | exact fd_nn (by assumption) | (split at hu <;> omega) | (split <;> omega) | exact E_inv (by assumption)), p0j5, p0j6, hP1 0 _ rfl⟩
  exact ⟨⟨r, (), ho, hr, ⟨np0, p1.kept (FR 113 114 (by decide) (by decide)), p2.kept (FR 114 115 (by decide) (by decide)), p3.kept (FR 115 116 (by decide) (by decide)), p4.kept (FR 116 117 (by decide) (by decide)), p5.kept (FR 117 118 (by decide) (by decide)), p6.kept (FR 118 119 (by decide) (by decide)), p7.kept (FR 119 120 (by decide) (by decide)), p8.kept (FR 120 121 (by decide) (by decide)), p9.kept (FR 121 122 (by decide) (by decide)), p10.kept (FR 122 123 (by decide) (by decide)), p11.kept (FR 123 124 (by decide) (by decide)), p12.kept (FR 124 125 (by decide) (by decide)), p13.kept (FR 125 126 (by decide) (by decide)), p14.kept (FR 126 127 (by decide) (by decide)), p15.kept (FR 127 128 (by decide) (by decide)), p16.kept (FR 128 129 (by decide) (by decide))⟩⟩, hF.wide (ad_ix [112] (by rfl) (by decide))⟩

set_option maxHeartbeats 1000000 in
set_option maxRecDepth 100000 in
theorem k_X11_paths (l : Launch) (dC : Nat → ClassId) (dI : Nat → Nat → Nat) (G : Nat → ClassId) (sz : Nat) (ax : Nat → Nat) (hi : adInj 129 ax) (T : Nat) (Y : Nat → Int32) (fa : Int32) (N : Nat) (B : Nat) (N1 : Nat) (B1 : Nat) (N2 : Nat) (B2 : Nat) (K : Nat → Int32) (S : Nat) (M : Nat) (E : Nat → Int32) (Z : Nat → Int32) : Met l yX11_paths (Cond.code yX11_paths cX11_paths 1 (some .int) :: GT) ({ frames := 6, cells := 0, slots := 0, locals := 146 } : Room) (PcI [.ref (ax 112)] dC dI G (X11I dC dI G ax T Y fa N B N1 B1 N2 B2 K S M E Z) sz) (va_Qi (fun (r : Int32) (_ : Unit) => True) (fun _ t => X11I dC dI G ax T Y fa N B N1 B1 N2 B2 K S M E Z t.heap) (adX 112 129 ax sz)) 0 0 (adX 112 129 ax sz) := by
  refine Met.pick (fun a st hp => ?_)
  obtain ⟨e0, hsz, hI, hK⟩ := hp
  subst hsz
  have hI0 := hI
  unfold X11I at hI
  obtain ⟨p0, p1, p2, p3, p4, p5, p6, p7, p8, p9, p10, p11, p12, p13, p14, p15, p16⟩ := hI
  unfold X11Pr at p0
  obtain ⟨zi112_4, zi112_5, zi112_6, zi112_7, zi112_8, zi112_9, zi112_13, zi112_14, zi112_15, zn112_16, zi112_17, zi112_18, zi112_34, p0j0, p0j1, p0j2, p0j3, p0j4, p0j5, p0j6, q112⟩ := p0
  unfold X11P0 at p1
  obtain ⟨zf113, p1j0, q113⟩ := p1
  unfold X11P26 at p10
  obtain ⟨zf122, q122⟩ := p10
  unfold X11P28 at p11
  obtain ⟨zf123, q123⟩ := p11
  unfold X11P29 at p12
  obtain ⟨zf124, q124⟩ := p12
  refine ⟨_, _, _, c_X11_paths l dC dI G _ (ax 112) (ax 113) N B (ax 114) (ax 115) T (ax 116) (ax 117) (ax 118) (ax 119) (ax 120) (ax 121) S (ax 122) M (ax 123) (ax 124) (ax 125) (ax 126) (ax 127) (ax 128) zi112_4 zi112_5 zi112_6 zi112_7 zi112_8 zi112_9 fa zi112_13 zi112_14 zi112_15 (nI zn112_16) zi112_17 zi112_18 zi112_34 zf113 zf122 zf123 zf124 (by assumption) (by assumption) (by assumption) (by assumption) (by assumption) (by assumption), ⟨e0, rfl, (vpc q112 (vpc q113 (vpc q122 (vpc q123 (vpc q124 va_nilP))))), hK, vD_ix hi [112, 113, 122, 123, 124] (by rfl) (by decide) (by decide)⟩, ad_ix [112, 113, 122, 123, 124] (by rfl) (by decide), fun o t hq => ?_⟩
  obtain ⟨⟨r, ⟨oah, obh⟩, ho, ⟨hr, hu⟩, hP1, -⟩, hF⟩ := hq
  have FR : ∀ lo hi' : Nat, hi' ≤ 129 → ([112, 113, 122, 123, 124] : List Nat).all (fun x => decide (x < lo) || decide (hi' ≤ x)) = true → ∀ j : Nat, lo ≤ j → j < hi' → ax j < st.heap.size → t.heap[ax j]? = st.heap[ax j]? := fun lo hi' h1 h2 => fr_ix hi h1 hF.2 [112, 113, 122, 123, 124] (by rfl) (by decide) h2
  have np0 : X11Pr dC dI G ax N B T fa S M t.heap := ⟨zi112_4, zi112_5, zi112_6, zi112_7, zi112_8, zi112_9, zi112_13, zi112_14, zi112_15, zn112_16, zi112_17, zi112_18, zi112_34, p0j0, p0j1, p0j2, p0j3, p0j4, p0j5, p0j6, hP1 0 _ rfl⟩
  have np1 : X11P0 dC dI G ax t.heap := ⟨zf113, p1j0, hP1 1 _ rfl⟩
  have np10 : X11P26 dC dI G ax t.heap := ⟨zf122, hP1 2 _ rfl⟩
  have np11 : X11P28 dC dI G ax t.heap := ⟨oah, hP1 3 _ rfl⟩
  have np12 : X11P29 dC dI G ax t.heap := ⟨obh, hP1 4 _ rfl⟩
  exact ⟨⟨r, (), ho, trivial, ⟨np0, np1, p2.kept (FR 114 115 (by decide) (by decide)), p3.kept (FR 115 116 (by decide) (by decide)), p4.kept (FR 116 117 (by decide) (by decide)), p5.kept (FR 117 118 (by decide) (by decide)), p6.kept (FR 118 119 (by decide) (by decide)), p7.kept (FR 119 120 (by decide) (by decide)), p8.kept (FR 120 121 (by decide) (by decide)), p9.kept (FR 121 122 (by decide) (by decide)), np10, np11, np12, p13.kept (FR 125 126 (by decide) (by decide)), p14.kept (FR 126 127 (by decide) (by decide)), p15.kept (FR 127 128 (by decide) (by decide)), p16.kept (FR 128 129 (by decide) (by decide))⟩⟩, hF.wide (ad_ix [112, 113, 122, 123, 124] (by rfl) (by decide))⟩

set_option maxHeartbeats 1000000 in
set_option maxRecDepth 100000 in
theorem k_X11_eye (l : Launch) (dC : Nat → ClassId) (dI : Nat → Nat → Nat) (G : Nat → ClassId) (sz : Nat) (ax : Nat → Nat) (hi : adInj 129 ax) (T : Nat) (Y : Nat → Int32) (fa : Int32) (N : Nat) (B : Nat) (N1 : Nat) (B1 : Nat) (N2 : Nat) (B2 : Nat) (K : Nat → Int32) (S : Nat) (M : Nat) (E : Nat → Int32) (Z : Nat → Int32) (d : Int32) : Met l yX11_eye (Cond.code yX11_eye cX11_eye 4 (some .int) :: GT) ({ frames := 6, cells := 0, slots := 0, locals := 146 } : Room) (PcI [.ref (ax 112), .int d] dC dI G (X11I dC dI G ax T Y fa N B N1 B1 N2 B2 K S M E Z) sz) (va_Qi (fun (r : Int32) (_ : Unit) => True) (fun _ t => X11I dC dI G ax T Y fa N B N1 B1 N2 B2 K S M E Z t.heap) (adX 112 129 ax sz)) 0 0 (adX 112 129 ax sz) := by
  refine Met.pick (fun a st hp => ?_)
  obtain ⟨e0, hsz, hI, hK⟩ := hp
  subst hsz
  have hI0 := hI
  unfold X11I at hI
  obtain ⟨p0, p1, p2, p3, p4, p5, p6, p7, p8, p9, p10, p11, p12, p13, p14, p15, p16⟩ := hI
  unfold X11Pr at p0
  obtain ⟨zi112_4, zi112_5, zi112_6, zi112_7, zi112_8, zi112_9, zi112_13, zi112_14, zi112_15, zn112_16, zi112_17, zi112_18, zi112_34, p0j0, p0j1, p0j2, p0j3, p0j4, p0j5, p0j6, q112⟩ := p0
  unfold X11P0 at p1
  obtain ⟨zf113, p1j0, q113⟩ := p1
  unfold X11P26 at p10
  obtain ⟨zf122, q122⟩ := p10
  unfold X11P28 at p11
  obtain ⟨zf123, q123⟩ := p11
  unfold X11P29 at p12
  obtain ⟨zf124, q124⟩ := p12
  refine ⟨_, _, _, c_X11_eye l dC dI G _ (ax 112) (ax 113) N B (ax 114) (ax 115) T (ax 116) (ax 117) (ax 118) (ax 119) (ax 120) (ax 121) S (ax 122) M (ax 123) (ax 124) (ax 125) (ax 126) (ax 127) (ax 128) d zi112_4 zi112_5 zi112_6 zi112_7 zi112_8 zi112_9 fa zi112_13 zi112_14 zi112_15 (nI zn112_16) zi112_17 zi112_18 zi112_34 zf113 zf122 zf123 zf124 (by assumption) (by assumption) (by assumption) (by assumption) (by assumption) (by assumption), ⟨e0, rfl, (vpc q112 (vpc q113 (vpc q122 (vpc q123 (vpc q124 va_nilP))))), hK, vD_ix hi [112, 113, 122, 123, 124] (by rfl) (by decide) (by decide)⟩, ad_ix [112, 113, 122, 123, 124] (by rfl) (by decide), fun o t hq => ?_⟩
  obtain ⟨⟨r, ⟨oah, obh⟩, ho, ⟨hr, hu⟩, hP1, -⟩, hF⟩ := hq
  have FR : ∀ lo hi' : Nat, hi' ≤ 129 → ([112, 113, 122, 123, 124] : List Nat).all (fun x => decide (x < lo) || decide (hi' ≤ x)) = true → ∀ j : Nat, lo ≤ j → j < hi' → ax j < st.heap.size → t.heap[ax j]? = st.heap[ax j]? := fun lo hi' h1 h2 => fr_ix hi h1 hF.2 [112, 113, 122, 123, 124] (by rfl) (by decide) h2
  have np0 : X11Pr dC dI G ax N B T fa S M t.heap := ⟨zi112_4, zi112_5, zi112_6, zi112_7, zi112_8, zi112_9, zi112_13, zi112_14, zi112_15, zn112_16, zi112_17, zi112_18, zi112_34, p0j0, p0j1, p0j2, p0j3, p0j4, p0j5, p0j6, hP1 0 _ rfl⟩
  have np1 : X11P0 dC dI G ax t.heap := ⟨zf113, p1j0, hP1 1 _ rfl⟩
  have np10 : X11P26 dC dI G ax t.heap := ⟨zf122, hP1 2 _ rfl⟩
  have np11 : X11P28 dC dI G ax t.heap := ⟨oah, hP1 3 _ rfl⟩
  have np12 : X11P29 dC dI G ax t.heap := ⟨obh, hP1 4 _ rfl⟩
  exact ⟨⟨r, (), ho, trivial, ⟨np0, np1, p2.kept (FR 114 115 (by decide) (by decide)), p3.kept (FR 115 116 (by decide) (by decide)), p4.kept (FR 116 117 (by decide) (by decide)), p5.kept (FR 117 118 (by decide) (by decide)), p6.kept (FR 118 119 (by decide) (by decide)), p7.kept (FR 119 120 (by decide) (by decide)), p8.kept (FR 120 121 (by decide) (by decide)), p9.kept (FR 121 122 (by decide) (by decide)), np10, np11, np12, p13.kept (FR 125 126 (by decide) (by decide)), p14.kept (FR 126 127 (by decide) (by decide)), p15.kept (FR 127 128 (by decide) (by decide)), p16.kept (FR 128 129 (by decide) (by decide))⟩⟩, hF.wide (ad_ix [112, 113, 122, 123, 124] (by rfl) (by decide))⟩

set_option maxHeartbeats 1000000 in
set_option maxRecDepth 100000 in
theorem k_X11_sure (l : Launch) (dC : Nat → ClassId) (dI : Nat → Nat → Nat) (G : Nat → ClassId) (sz : Nat) (ax : Nat → Nat) (hi : adInj 129 ax) (T : Nat) (Y : Nat → Int32) (fa : Int32) (N : Nat) (B : Nat) (N1 : Nat) (B1 : Nat) (N2 : Nat) (B2 : Nat) (K : Nat → Int32) (S : Nat) (M : Nat) (E : Nat → Int32) (Z : Nat → Int32) (what : Int32) : Met l yX11_sure (Cond.code yX11_sure cX11_sure 7 (some .int) :: GT) ({ frames := 6, cells := 0, slots := 0, locals := 146 } : Room) (PcI [.ref (ax 112), .int what] dC dI G (X11I dC dI G ax T Y fa N B N1 B1 N2 B2 K S M E Z) sz) (va_Qi (fun (r : Int32) (_ : Unit) => True) (fun _ t => X11I dC dI G ax T Y fa N B N1 B1 N2 B2 K S M E Z t.heap) (adX 112 129 ax sz)) 0 0 (adX 112 129 ax sz) := by
  refine Met.pick (fun a st hp => ?_)
  obtain ⟨e0, hsz, hI, hK⟩ := hp
  subst hsz
  have hI0 := hI
  unfold X11I at hI
  obtain ⟨p0, p1, p2, p3, p4, p5, p6, p7, p8, p9, p10, p11, p12, p13, p14, p15, p16⟩ := hI
  unfold X11Pr at p0
  obtain ⟨zi112_4, zi112_5, zi112_6, zi112_7, zi112_8, zi112_9, zi112_13, zi112_14, zi112_15, zn112_16, zi112_17, zi112_18, zi112_34, p0j0, p0j1, p0j2, p0j3, p0j4, p0j5, p0j6, q112⟩ := p0
  unfold X11P0 at p1
  obtain ⟨zf113, p1j0, q113⟩ := p1
  unfold X11P26 at p10
  obtain ⟨zf122, q122⟩ := p10
  unfold X11P28 at p11
  obtain ⟨zf123, q123⟩ := p11
  unfold X11P29 at p12
  obtain ⟨zf124, q124⟩ := p12
  refine ⟨_, _, _, c_X11_sure l dC dI G _ (ax 112) (ax 113) N B (ax 114) (ax 115) T (ax 116) (ax 117) (ax 118) (ax 119) (ax 120) (ax 121) S (ax 122) M (ax 123) (ax 124) (ax 125) (ax 126) (ax 127) (ax 128) what zi112_4 zi112_5 zi112_6 zi112_7 zi112_8 zi112_9 fa zi112_13 zi112_14 zi112_15 (nI zn112_16) zi112_17 zi112_18 zi112_34 zf113 zf122 zf123 zf124 (by assumption) (by assumption) (by assumption) (by assumption) (by assumption) (by assumption), ⟨e0, rfl, (vpc q112 (vpc q113 (vpc q122 (vpc q123 (vpc q124 va_nilP))))), hK, vD_ix hi [112, 113, 122, 123, 124] (by rfl) (by decide) (by decide)⟩, ad_ix [112, 113, 122, 123, 124] (by rfl) (by decide), fun o t hq => ?_⟩
  obtain ⟨⟨r, ⟨oah, obh⟩, ho, ⟨hr, hu⟩, hP1, -⟩, hF⟩ := hq
  have FR : ∀ lo hi' : Nat, hi' ≤ 129 → ([112, 113, 122, 123, 124] : List Nat).all (fun x => decide (x < lo) || decide (hi' ≤ x)) = true → ∀ j : Nat, lo ≤ j → j < hi' → ax j < st.heap.size → t.heap[ax j]? = st.heap[ax j]? := fun lo hi' h1 h2 => fr_ix hi h1 hF.2 [112, 113, 122, 123, 124] (by rfl) (by decide) h2
  have np0 : X11Pr dC dI G ax N B T fa S M t.heap := ⟨zi112_4, zi112_5, zi112_6, zi112_7, zi112_8, zi112_9, zi112_13, zi112_14, zi112_15, zn112_16, zi112_17, zi112_18, zi112_34, p0j0, p0j1, p0j2, p0j3, p0j4, p0j5, p0j6, hP1 0 _ rfl⟩
  have np1 : X11P0 dC dI G ax t.heap := ⟨zf113, p1j0, hP1 1 _ rfl⟩
  have np10 : X11P26 dC dI G ax t.heap := ⟨zf122, hP1 2 _ rfl⟩
  have np11 : X11P28 dC dI G ax t.heap := ⟨oah, hP1 3 _ rfl⟩
  have np12 : X11P29 dC dI G ax t.heap := ⟨obh, hP1 4 _ rfl⟩
  exact ⟨⟨r, (), ho, trivial, ⟨np0, np1, p2.kept (FR 114 115 (by decide) (by decide)), p3.kept (FR 115 116 (by decide) (by decide)), p4.kept (FR 116 117 (by decide) (by decide)), p5.kept (FR 117 118 (by decide) (by decide)), p6.kept (FR 118 119 (by decide) (by decide)), p7.kept (FR 119 120 (by decide) (by decide)), p8.kept (FR 120 121 (by decide) (by decide)), p9.kept (FR 121 122 (by decide) (by decide)), np10, np11, np12, p13.kept (FR 125 126 (by decide) (by decide)), p14.kept (FR 126 127 (by decide) (by decide)), p15.kept (FR 127 128 (by decide) (by decide)), p16.kept (FR 128 129 (by decide) (by decide))⟩⟩, hF.wide (ad_ix [112, 113, 122, 123, 124] (by rfl) (by decide))⟩

set_option maxHeartbeats 1000000 in
set_option maxRecDepth 100000 in
theorem k_X11_keepE (l : Launch) (dC : Nat → ClassId) (dI : Nat → Nat → Nat) (G : Nat → ClassId) (sz : Nat) (ax : Nat → Nat) (hi : adInj 129 ax) (T : Nat) (Y : Nat → Int32) (fa : Int32) (N : Nat) (B : Nat) (N1 : Nat) (B1 : Nat) (N2 : Nat) (B2 : Nat) (K : Nat → Int32) (S : Nat) (M : Nat) (E : Nat → Int32) (Z : Nat → Int32) (k : Int32) : Met l yX11_keep (Cond.code yX11_keep cX11_keep 3 (some .int) :: GT) ({ frames := 1, cells := 0, slots := 0, locals := 25 } : Room) (PcI [.ref (ax 112), .int k] dC dI G (X11I dC dI G ax T Y fa N B N1 B1 N2 B2 K S M E Z) sz) (va_Qi (fun (r : Int32) (_ : Unit) => r = if (0 ≤ k.toInt ∧ k.toInt < 2) then (if K k.toNatClampNeg = 0 then 0 else 1) else -1) (fun _ t => X11I dC dI G ax T Y fa N B (if k = 0 then N else N1) (if k = 0 then B else B1) (if k = 1 then N else N2) (if k = 1 then B else B2) (if (0 ≤ k.toInt ∧ k.toInt < 2) then upd K k.toNatClampNeg 1 else K) S M E Z t.heap) (adX 112 129 ax sz)) 0 0 (adX 112 129 ax sz) := by
  refine Met.pick (fun a st hp => ?_)
  obtain ⟨e0, hsz, hI, hK⟩ := hp
  subst hsz
  have hI0 := hI
  unfold X11I at hI
  obtain ⟨p0, p1, p2, p3, p4, p5, p6, p7, p8, p9, p10, p11, p12, p13, p14, p15, p16⟩ := hI
  unfold X11Pr at p0
  obtain ⟨zi112_4, zi112_5, zi112_6, zi112_7, zi112_8, zi112_9, zi112_13, zi112_14, zi112_15, zn112_16, zi112_17, zi112_18, zi112_34, p0j0, p0j1, p0j2, p0j3, p0j4, p0j5, p0j6, q112⟩ := p0
  unfold X11P0 at p1
  obtain ⟨zf113, p1j0, q113⟩ := p1
  unfold X11P30 at p13
  have q125 := p13
  refine ⟨_, _, _, c_X11_keepE l dC dI G _ (ax 112) (ax 113) N B (ax 114) (ax 115) T (ax 116) (ax 117) (ax 118) (ax 119) (ax 120) (ax 121) S (ax 122) M (ax 123) (ax 124) (ax 125) (ax 126) (ax 127) (ax 128) k zi112_4 zi112_5 zi112_6 zi112_7 zi112_8 zi112_9 fa zi112_13 zi112_14 zi112_15 (nI zn112_16) zi112_17 zi112_18 zi112_34 zf113 K (by assumption) (by assumption) (by assumption) (by assumption) (by assumption) (by assumption), ⟨e0, rfl, (vpc q112 (vpc q113 (vpc q125 va_nilP))), hK, vD_ix hi [112, 113, 125] (by rfl) (by decide) (by decide)⟩, ad_ix [112, 113, 125] (by rfl) (by decide), fun o t hq => ?_⟩
  obtain ⟨⟨r, ⟨ost, oik⟩, ho, ⟨hr, hu⟩, hP1, -⟩, hF⟩ := hq
  have FR : ∀ lo hi' : Nat, hi' ≤ 129 → ([112, 113, 125] : List Nat).all (fun x => decide (x < lo) || decide (hi' ≤ x)) = true → ∀ j : Nat, lo ≤ j → j < hi' → ax j < st.heap.size → t.heap[ax j]? = st.heap[ax j]? := fun lo hi' h1 h2 => fr_ix hi h1 hF.2 [112, 113, 125] (by rfl) (by decide) h2
  have y125 : (if (0 ≤ k.toInt ∧ k.toInt < 2) then upd K k.toNatClampNeg 1 else K) = oik := Eq.symm (hu.2)
  subst y125
  replace hu := hu.1
  have np0 : X11Pr dC dI G ax N B T fa S M t.heap := ⟨zi112_4, zi112_5, zi112_6, zi112_7, zi112_8, zi112_9, zi112_13, zi112_14, zi112_15, zn112_16, zi112_17, zi112_18, zi112_34, p0j0, p0j1, p0j2, p0j3, p0j4, p0j5, p0j6, hP1 0 _ rfl⟩
  have np1 : X11P0 dC dI G ax t.heap := ⟨ost, (by first | omega | exact hu | exact hu.1 | exact hu.1.1 | exact hu.1.2 | exact hu.2 | exact fd_nn (by assumption) | (split at hu <;> omega) | (split <;> omega) | exact E_inv (by assumption)), hP1 1 _ rfl⟩
  have np13 : X11P30 dC dI G ax (if (0 ≤ k.toInt ∧ k.toInt < 2) then upd K k.toNatClampNeg 1 else K) t.heap := hP1 2 _ rfl
  exact ⟨⟨r, (), ho, hr, ⟨np0, np1, p2.kept (FR 114 115 (by decide) (by decide)), p3.kept (FR 115 116 (by decide) (by decide)), p4.kept (FR 116 117 (by decide) (by decide)), p5.kept (FR 117 118 (by decide) (by decide)), p6.kept (FR 118 119 (by decide) (by decide)), p7.kept (FR 119 120 (by decide) (by decide)), p8.kept (FR 120 121 (by decide) (by decide)), p9.kept (FR 121 122 (by decide) (by decide)), p10.kept (FR 122 123 (by decide) (by decide)), p11.kept (FR 123 124 (by decide) (by decide)), p12.kept (FR 124 125 (by decide) (by decide)), np13, p14.kept (FR 126 127 (by decide) (by decide)), p15.kept (FR 127 128 (by decide) (by decide)), p16.kept (FR 128 129 (by decide) (by decide))⟩⟩, hF.wide (ad_ix [112, 113, 125] (by rfl) (by decide))⟩

set_option maxHeartbeats 1000000 in
set_option maxRecDepth 100000 in
theorem k_X11_backE (l : Launch) (dC : Nat → ClassId) (dI : Nat → Nat → Nat) (G : Nat → ClassId) (sz : Nat) (ax : Nat → Nat) (hi : adInj 129 ax) (T : Nat) (Y : Nat → Int32) (fa : Int32) (N : Nat) (B : Nat) (N1 : Nat) (B1 : Nat) (N2 : Nat) (B2 : Nat) (K : Nat → Int32) (S : Nat) (M : Nat) (E : Nat → Int32) (Z : Nat → Int32) (k : Int32) : Met l yX11_back (Cond.code yX11_back cX11_back 2 (some .int) :: GT) ({ frames := 1, cells := 0, slots := 0, locals := 25 } : Room) (PcI [.ref (ax 112), .int k] dC dI G (X11I dC dI G ax T Y fa N B N1 B1 N2 B2 K S M E Z) sz) (va_Qi (fun (r : Int32) (_ : Unit) => r = if (0 ≤ k.toInt ∧ k.toInt < 2) then (if K k.toNatClampNeg = 0 then -2 else nI N) else -1) (fun _ t => X11I dC dI G ax T Y fa N B N1 B1 N2 B2 K S M E Z t.heap) (adX 112 129 ax sz)) 0 0 (adX 112 129 ax sz) := by
  refine Met.pick (fun a st hp => ?_)
  obtain ⟨e0, hsz, hI, hK⟩ := hp
  subst hsz
  have hI0 := hI
  unfold X11I at hI
  obtain ⟨p0, p1, p2, p3, p4, p5, p6, p7, p8, p9, p10, p11, p12, p13, p14, p15, p16⟩ := hI
  unfold X11Pr at p0
  obtain ⟨zi112_4, zi112_5, zi112_6, zi112_7, zi112_8, zi112_9, zi112_13, zi112_14, zi112_15, zn112_16, zi112_17, zi112_18, zi112_34, p0j0, p0j1, p0j2, p0j3, p0j4, p0j5, p0j6, q112⟩ := p0
  unfold X11P0 at p1
  obtain ⟨zf113, p1j0, q113⟩ := p1
  unfold X11P30 at p13
  have q125 := p13
  refine ⟨_, _, _, c_X11_backE l dC dI G _ (ax 112) (ax 113) N B (ax 114) (ax 115) T (ax 116) (ax 117) (ax 118) (ax 119) (ax 120) (ax 121) S (ax 122) M (ax 123) (ax 124) (ax 125) (ax 126) (ax 127) (ax 128) k zi112_4 zi112_5 zi112_6 zi112_7 zi112_8 zi112_9 fa zi112_13 zi112_14 zi112_15 (nI zn112_16) zi112_17 zi112_18 zi112_34 zf113 K (by assumption) (by assumption) (by assumption) (by assumption) (by assumption) (by assumption), ⟨e0, rfl, (vpc q112 (vpc q113 (vpc q125 va_nilP))), hK, vD_ix hi [112, 113, 125] (by rfl) (by decide) (by decide)⟩, ad_ix [112, 113, 125] (by rfl) (by decide), fun o t hq => ?_⟩
  obtain ⟨⟨r, ost, ho, ⟨hr, hu⟩, hP1, -⟩, hF⟩ := hq
  have FR : ∀ lo hi' : Nat, hi' ≤ 129 → ([112, 113, 125] : List Nat).all (fun x => decide (x < lo) || decide (hi' ≤ x)) = true → ∀ j : Nat, lo ≤ j → j < hi' → ax j < st.heap.size → t.heap[ax j]? = st.heap[ax j]? := fun lo hi' h1 h2 => fr_ix hi h1 hF.2 [112, 113, 125] (by rfl) (by decide) h2
  have np0 : X11Pr dC dI G ax N B T fa S M t.heap := ⟨zi112_4, zi112_5, zi112_6, zi112_7, zi112_8, zi112_9, zi112_13, zi112_14, zi112_15, zn112_16, zi112_17, zi112_18, zi112_34, p0j0, p0j1, p0j2, p0j3, p0j4, p0j5, p0j6, hP1 0 _ rfl⟩
  have np1 : X11P0 dC dI G ax t.heap := ⟨ost, (by first | omega | exact hu | exact hu.1 | exact hu.1.1 | exact hu.1.2 | exact hu.2 | exact fd_nn (by assumption) | (split at hu <;> omega) | (split <;> omega) | exact E_inv (by assumption)), hP1 1 _ rfl⟩
  have np13 : X11P30 dC dI G ax K t.heap := hP1 2 _ rfl
  exact ⟨⟨r, (), ho, hr, ⟨np0, np1, p2.kept (FR 114 115 (by decide) (by decide)), p3.kept (FR 115 116 (by decide) (by decide)), p4.kept (FR 116 117 (by decide) (by decide)), p5.kept (FR 117 118 (by decide) (by decide)), p6.kept (FR 118 119 (by decide) (by decide)), p7.kept (FR 119 120 (by decide) (by decide)), p8.kept (FR 120 121 (by decide) (by decide)), p9.kept (FR 121 122 (by decide) (by decide)), p10.kept (FR 122 123 (by decide) (by decide)), p11.kept (FR 123 124 (by decide) (by decide)), p12.kept (FR 124 125 (by decide) (by decide)), np13, p14.kept (FR 126 127 (by decide) (by decide)), p15.kept (FR 127 128 (by decide) (by decide)), p16.kept (FR 128 129 (by decide) (by decide))⟩⟩, hF.wide (ad_ix [112, 113, 125] (by rfl) (by decide))⟩

set_option maxHeartbeats 1000000 in
set_option maxRecDepth 100000 in
theorem k_X11_sheet (l : Launch) (dC : Nat → ClassId) (dI : Nat → Nat → Nat) (G : Nat → ClassId) (sz : Nat) (ax : Nat → Nat) (hi : adInj 129 ax) (T : Nat) (Y : Nat → Int32) (fa : Int32) (N : Nat) (B : Nat) (N1 : Nat) (B1 : Nat) (N2 : Nat) (B2 : Nat) (K : Nat → Int32) (S : Nat) (M : Nat) (E : Nat → Int32) (Z : Nat → Int32) (k : Int32) (lane : Int32) (n : Int32) : Met l yX11_sheet (Cond.code yX11_sheet cX11_sheet 5 (some .int) :: GT) ({ frames := 1, cells := 0, slots := 0, locals := 25 } : Room) (PcI [.ref (ax 112), .int k, .int lane, .int n] dC dI G (X11I dC dI G ax T Y fa N B N1 B1 N2 B2 K S M E Z) sz) (va_Qi (fun (r : Int32) (_ : Unit) => r = if (0 ≤ k.toInt ∧ k.toInt < 4) ∧ (0 ≤ lane.toInt ∧ lane.toInt ≤ 2) ∧ n.toInt ≤ 40 then (if n.toInt < 0 then -14 else 1) else -1) (fun _ t => X11I dC dI G ax T Y fa N B N1 B1 N2 B2 K S M (if ((0 ≤ k.toInt ∧ k.toInt < 4) ∧ (0 ≤ lane.toInt ∧ lane.toInt ≤ 2) ∧ n.toInt ≤ 40 ∧ 0 ≤ n.toInt) then upd E k.toNatClampNeg lane else E) (if ((0 ≤ k.toInt ∧ k.toInt < 4) ∧ (0 ≤ lane.toInt ∧ lane.toInt ≤ 2) ∧ n.toInt ≤ 40 ∧ 0 ≤ n.toInt) then upd Z k.toNatClampNeg n else Z) t.heap) (adX 112 129 ax sz)) 0 0 (adX 112 129 ax sz) := by
  refine Met.pick (fun a st hp => ?_)
  obtain ⟨e0, hsz, hI, hK⟩ := hp
  subst hsz
  have hI0 := hI
  unfold X11I at hI
  obtain ⟨p0, p1, p2, p3, p4, p5, p6, p7, p8, p9, p10, p11, p12, p13, p14, p15, p16⟩ := hI
  unfold X11Pr at p0
  obtain ⟨zi112_4, zi112_5, zi112_6, zi112_7, zi112_8, zi112_9, zi112_13, zi112_14, zi112_15, zn112_16, zi112_17, zi112_18, zi112_34, p0j0, p0j1, p0j2, p0j3, p0j4, p0j5, p0j6, q112⟩ := p0
  unfold X11P31 at p14
  obtain ⟨p14j0, q126⟩ := p14
  unfold X11P32 at p15
  obtain ⟨p15j0, q127⟩ := p15
  unfold X11P33 at p16
  obtain ⟨zf128, q128⟩ := p16
  refine ⟨_, _, _, c_X11_sheet l dC dI G _ (ax 112) (ax 113) N B (ax 114) (ax 115) T (ax 116) (ax 117) (ax 118) (ax 119) (ax 120) (ax 121) S (ax 122) M (ax 123) (ax 124) (ax 125) (ax 126) (ax 127) (ax 128) k lane n zi112_4 zi112_5 zi112_6 zi112_7 zi112_8 zi112_9 fa zi112_13 zi112_14 zi112_15 (nI zn112_16) zi112_17 zi112_18 zi112_34 (lmap E) Z zf128 (by assumption) (by assumption) (by assumption) (by assumption) (by assumption) (by assumption), ⟨e0, rfl, (vpc q112 (vpc q126 (vpc q127 (vpc q128 va_nilP)))), hK, vD_ix hi [112, 126, 127, 128] (by rfl) (by decide) (by decide)⟩, ad_ix [112, 126, 127, 128] (by rfl) (by decide), fun o t hq => ?_⟩
  obtain ⟨⟨r, ⟨ola, olg, oce⟩, ho, ⟨hr, hu⟩, hP1, -⟩, hF⟩ := hq
  have FR : ∀ lo hi' : Nat, hi' ≤ 129 → ([112, 126, 127, 128] : List Nat).all (fun x => decide (x < lo) || decide (hi' ≤ x)) = true → ∀ j : Nat, lo ≤ j → j < hi' → ax j < st.heap.size → t.heap[ax j]? = st.heap[ax j]? := fun lo hi' h1 h2 => fr_ix hi h1 hF.2 [112, 126, 127, 128] (by rfl) (by decide) h2
  have y126 : lmap (if ((0 ≤ k.toInt ∧ k.toInt < 4) ∧ (0 ≤ lane.toInt ∧ lane.toInt ≤ 2) ∧ n.toInt ≤ 40 ∧ 0 ≤ n.toInt) then upd E k.toNatClampNeg lane else E) = ola := Eq.symm (by first | exact hu | exact hu.1 | exact hu.2 | exact hu.1.1 | exact hu.1.2 | exact hu.2.1.trans (txt_cf (by assumption)) | exact hu.2.1.trans (txt_rf (by assumption)) | exact hu.1.1.trans lmap_step | omega)
  subst y126
  have y127 : (if ((0 ≤ k.toInt ∧ k.toInt < 4) ∧ (0 ≤ lane.toInt ∧ lane.toInt ≤ 2) ∧ n.toInt ≤ 40 ∧ 0 ≤ n.toInt) then upd Z k.toNatClampNeg n else Z) = olg := Eq.symm (by first | exact hu | exact hu.1 | exact hu.2 | exact hu.1.1 | exact hu.1.2 | exact hu.2.1.trans (txt_cf (by assumption)) | exact hu.2.1.trans (txt_rf (by assumption)) | exact hu.1.1.trans lmap_step | omega)
  subst y127
  have np0 : X11Pr dC dI G ax N B T fa S M t.heap := ⟨zi112_4, zi112_5, zi112_6, zi112_7, zi112_8, zi112_9, zi112_13, zi112_14, zi112_15, zn112_16, zi112_17, zi112_18, zi112_34, p0j0, p0j1, p0j2, p0j3, p0j4, p0j5, p0j6, hP1 0 _ rfl⟩
  have np14 : X11P31 dC dI G ax (if ((0 ≤ k.toInt ∧ k.toInt < 4) ∧ (0 ≤ lane.toInt ∧ lane.toInt ≤ 2) ∧ n.toInt ≤ 40 ∧ 0 ≤ n.toInt) then upd E k.toNatClampNeg lane else E) t.heap := ⟨(by first | omega | exact hu | exact hu.1 | exact hu.1.1 | exact hu.1.2 | exact hu.2 | exact fd_nn (by assumption) | (split at hu <;> omega) | (split <;> omega) | exact E_inv (by assumption)), hP1 1 _ rfl⟩
  have np15 : X11P32 dC dI G ax (if ((0 ≤ k.toInt ∧ k.toInt < 4) ∧ (0 ≤ lane.toInt ∧ lane.toInt ≤ 2) ∧ n.toInt ≤ 40 ∧ 0 ≤ n.toInt) then upd Z k.toNatClampNeg n else Z) t.heap := ⟨(by first | omega | exact hu | exact hu.1 | exact hu.1.1 | exact hu.1.2 | exact hu.2 | exact fd_nn (by assumption) | (split at hu <;> omega) | (split <;> omega) | exact E_inv (by assumption)), hP1 2 _ rfl⟩
  have np16 : X11P33 dC dI G ax t.heap := ⟨oce, hP1 3 _ rfl⟩
  exact ⟨⟨r, (), ho, hr, ⟨np0, p1.kept (FR 113 114 (by decide) (by decide)), p2.kept (FR 114 115 (by decide) (by decide)), p3.kept (FR 115 116 (by decide) (by decide)), p4.kept (FR 116 117 (by decide) (by decide)), p5.kept (FR 117 118 (by decide) (by decide)), p6.kept (FR 118 119 (by decide) (by decide)), p7.kept (FR 119 120 (by decide) (by decide)), p8.kept (FR 120 121 (by decide) (by decide)), p9.kept (FR 121 122 (by decide) (by decide)), p10.kept (FR 122 123 (by decide) (by decide)), p11.kept (FR 123 124 (by decide) (by decide)), p12.kept (FR 124 125 (by decide) (by decide)), p13.kept (FR 125 126 (by decide) (by decide)), np14, np15, np16⟩⟩, hF.wide (ad_ix [112, 126, 127, 128] (by rfl) (by decide))⟩

set_option maxHeartbeats 1000000 in
set_option maxRecDepth 100000 in
theorem k_X11_lay (l : Launch) (dC : Nat → ClassId) (dI : Nat → Nat → Nat) (G : Nat → ClassId) (sz : Nat) (ax : Nat → Nat) (hi : adInj 129 ax) (T : Nat) (Y : Nat → Int32) (fa : Int32) (N : Nat) (B : Nat) (N1 : Nat) (B1 : Nat) (N2 : Nat) (B2 : Nat) (K : Nat → Int32) (S : Nat) (M : Nat) (E : Nat → Int32) (Z : Nat → Int32) (k : Int32) (i : Int32) (v : Int32) : Met l yX11_lay (Cond.code yX11_lay cX11_lay 4 (some .int) :: GT) ({ frames := 1, cells := 0, slots := 0, locals := 25 } : Room) (PcI [.ref (ax 112), .int k, .int i, .int v] dC dI G (X11I dC dI G ax T Y fa N B N1 B1 N2 B2 K S M E Z) sz) (va_Qi (fun (r : Int32) (_ : Unit) => r = if 0 ≤ k.toInt ∧ k.toInt < 4 then (if E k.toNatClampNeg = -1 then -11 else if 0 ≤ i.toInt ∧ i.toInt < (Z k.toNatClampNeg).toInt then 1 else -12) else -1) (fun _ t => X11I dC dI G ax T Y fa N B N1 B1 N2 B2 K S M E Z t.heap) (adX 112 129 ax sz)) 0 0 (adX 112 129 ax sz) := by
  refine Met.pick (fun a st hp => ?_)
  obtain ⟨e0, hsz, hI, hK⟩ := hp
  subst hsz
  have hI0 := hI
  unfold X11I at hI
  obtain ⟨p0, p1, p2, p3, p4, p5, p6, p7, p8, p9, p10, p11, p12, p13, p14, p15, p16⟩ := hI
  unfold X11Pr at p0
  obtain ⟨zi112_4, zi112_5, zi112_6, zi112_7, zi112_8, zi112_9, zi112_13, zi112_14, zi112_15, zn112_16, zi112_17, zi112_18, zi112_34, p0j0, p0j1, p0j2, p0j3, p0j4, p0j5, p0j6, q112⟩ := p0
  unfold X11P31 at p14
  obtain ⟨p14j0, q126⟩ := p14
  unfold X11P32 at p15
  obtain ⟨p15j0, q127⟩ := p15
  unfold X11P33 at p16
  obtain ⟨zf128, q128⟩ := p16
  refine ⟨_, _, _, c_X11_lay l dC dI G _ (ax 112) (ax 113) N B (ax 114) (ax 115) T (ax 116) (ax 117) (ax 118) (ax 119) (ax 120) (ax 121) S (ax 122) M (ax 123) (ax 124) (ax 125) (ax 126) (ax 127) (ax 128) k i v zi112_4 zi112_5 zi112_6 zi112_7 zi112_8 zi112_9 fa zi112_13 zi112_14 zi112_15 (nI zn112_16) zi112_17 zi112_18 zi112_34 (lmap E) Z zf128 (by assumption) (by assumption) (by assumption) (by assumption) (by assumption) (by assumption), ⟨e0, rfl, (vpc q112 (vpc q126 (vpc q127 (vpc q128 va_nilP)))), hK, vD_ix hi [112, 126, 127, 128] (by rfl) (by decide) (by decide)⟩, ad_ix [112, 126, 127, 128] (by rfl) (by decide), fun o t hq => ?_⟩
  obtain ⟨⟨r, oce, ho, ⟨hr, hu⟩, hP1, -⟩, hF⟩ := hq
  have FR : ∀ lo hi' : Nat, hi' ≤ 129 → ([112, 126, 127, 128] : List Nat).all (fun x => decide (x < lo) || decide (hi' ≤ x)) = true → ∀ j : Nat, lo ≤ j → j < hi' → ax j < st.heap.size → t.heap[ax j]? = st.heap[ax j]? := fun lo hi' h1 h2 => fr_ix hi h1 hF.2 [112, 126, 127, 128] (by rfl) (by decide) h2
  have np0 : X11Pr dC dI G ax N B T fa S M t.heap := ⟨zi112_4, zi112_5, zi112_6, zi112_7, zi112_8, zi112_9, zi112_13, zi112_14, zi112_15, zn112_16, zi112_17, zi112_18, zi112_34, p0j0, p0j1, p0j2, p0j3, p0j4, p0j5, p0j6, hP1 0 _ rfl⟩
  have np14 : X11P31 dC dI G ax E t.heap := ⟨p14j0, hP1 1 _ rfl⟩
  have np15 : X11P32 dC dI G ax Z t.heap := ⟨p15j0, hP1 2 _ rfl⟩
  have np16 : X11P33 dC dI G ax t.heap := ⟨oce, hP1 3 _ rfl⟩
  exact ⟨⟨r, (), ho, hr.trans (lay_eq (by assumption)), ⟨np0, p1.kept (FR 113 114 (by decide) (by decide)), p2.kept (FR 114 115 (by decide) (by decide)), p3.kept (FR 115 116 (by decide) (by decide)), p4.kept (FR 116 117 (by decide) (by decide)), p5.kept (FR 117 118 (by decide) (by decide)), p6.kept (FR 118 119 (by decide) (by decide)), p7.kept (FR 119 120 (by decide) (by decide)), p8.kept (FR 120 121 (by decide) (by decide)), p9.kept (FR 121 122 (by decide) (by decide)), p10.kept (FR 122 123 (by decide) (by decide)), p11.kept (FR 123 124 (by decide) (by decide)), p12.kept (FR 124 125 (by decide) (by decide)), p13.kept (FR 125 126 (by decide) (by decide)), np14, np15, np16⟩⟩, hF.wide (ad_ix [112, 126, 127, 128] (by rfl) (by decide))⟩

set_option maxHeartbeats 1000000 in
set_option maxRecDepth 100000 in
theorem k_X11_read (l : Launch) (dC : Nat → ClassId) (dI : Nat → Nat → Nat) (G : Nat → ClassId) (sz : Nat) (ax : Nat → Nat) (hi : adInj 129 ax) (T : Nat) (Y : Nat → Int32) (fa : Int32) (N : Nat) (B : Nat) (N1 : Nat) (B1 : Nat) (N2 : Nat) (B2 : Nat) (K : Nat → Int32) (S : Nat) (M : Nat) (E : Nat → Int32) (Z : Nat → Int32) (k : Int32) (lane : Int32) (x1 : Int32) (n : Int32) : Met l yX11_read (Cond.code yX11_read cX11_read 9 (some .int) :: GT) ({ frames := 3, cells := 0, slots := 0, locals := 68 } : Room) (PcI [.ref (ax 112), .int k, .int lane, .int x1, .int n] dC dI G (X11I dC dI G ax T Y fa N B N1 B1 N2 B2 K S M E Z) sz) (va_Qi (fun (r : Int32) (_ : Unit) => True) (fun _ t => X11I dC dI G ax T Y fa N B N1 B1 N2 B2 K S M E Z t.heap) (adX 112 129 ax sz)) 0 0 (adX 112 129 ax sz) := by
  refine Met.pick (fun a st hp => ?_)
  obtain ⟨e0, hsz, hI, hK⟩ := hp
  subst hsz
  have hI0 := hI
  unfold X11I at hI
  obtain ⟨p0, p1, p2, p3, p4, p5, p6, p7, p8, p9, p10, p11, p12, p13, p14, p15, p16⟩ := hI
  unfold X11Pr at p0
  obtain ⟨zi112_4, zi112_5, zi112_6, zi112_7, zi112_8, zi112_9, zi112_13, zi112_14, zi112_15, zn112_16, zi112_17, zi112_18, zi112_34, p0j0, p0j1, p0j2, p0j3, p0j4, p0j5, p0j6, q112⟩ := p0
  unfold X11P0 at p1
  obtain ⟨zf113, p1j0, q113⟩ := p1
  unfold X11P31 at p14
  obtain ⟨p14j0, q126⟩ := p14
  unfold X11P32 at p15
  obtain ⟨p15j0, q127⟩ := p15
  unfold X11P33 at p16
  obtain ⟨zf128, q128⟩ := p16
  refine ⟨_, _, _, c_X11_read l dC dI G _ (ax 112) (ax 113) N B (ax 114) (ax 115) T (ax 116) (ax 117) (ax 118) (ax 119) (ax 120) (ax 121) S (ax 122) M (ax 123) (ax 124) (ax 125) (ax 126) (ax 127) (ax 128) k lane x1 n zi112_4 zi112_5 zi112_6 zi112_7 zi112_8 zi112_9 fa zi112_13 zi112_14 zi112_15 (nI zn112_16) zi112_17 zi112_18 zi112_34 zf113 (lmap E) Z zf128 (by assumption) (by assumption) (by assumption) (by assumption) (by assumption) (by assumption) (by assumption), ⟨e0, rfl, (vpc q112 (vpc q113 (vpc q126 (vpc q127 (vpc q128 va_nilP))))), hK, vD_ix hi [112, 113, 126, 127, 128] (by rfl) (by decide) (by decide)⟩, ad_ix [112, 113, 126, 127, 128] (by rfl) (by decide), fun o t hq => ?_⟩
  obtain ⟨⟨r, ⟨ost, oto⟩, ho, ⟨hr, hu⟩, hP1, -⟩, hF⟩ := hq
  have FR : ∀ lo hi' : Nat, hi' ≤ 129 → ([112, 113, 126, 127, 128] : List Nat).all (fun x => decide (x < lo) || decide (hi' ≤ x)) = true → ∀ j : Nat, lo ≤ j → j < hi' → ax j < st.heap.size → t.heap[ax j]? = st.heap[ax j]? := fun lo hi' h1 h2 => fr_ix hi h1 hF.2 [112, 113, 126, 127, 128] (by rfl) (by decide) h2
  have np0 : X11Pr dC dI G ax N B T fa S M t.heap := ⟨zi112_4, zi112_5, zi112_6, zi112_7, zi112_8, zi112_9, zi112_13, zi112_14, zi112_15, zn112_16, zi112_17, zi112_18, oto, p0j0, p0j1, p0j2, p0j3, p0j4, p0j5, p0j6, hP1 0 _ rfl⟩
  have np1 : X11P0 dC dI G ax t.heap := ⟨ost, (by first | omega | exact hu | exact hu.1 | exact hu.1.1 | exact hu.1.2 | exact hu.2 | exact fd_nn (by assumption) | (split at hu <;> omega) | (split <;> omega) | exact E_inv (by assumption)), hP1 1 _ rfl⟩
  have np14 : X11P31 dC dI G ax E t.heap := ⟨p14j0, hP1 2 _ rfl⟩
  have np15 : X11P32 dC dI G ax Z t.heap := ⟨p15j0, hP1 3 _ rfl⟩
  have np16 : X11P33 dC dI G ax t.heap := ⟨zf128, hP1 4 _ rfl⟩
  exact ⟨⟨r, (), ho, trivial, ⟨np0, np1, p2.kept (FR 114 115 (by decide) (by decide)), p3.kept (FR 115 116 (by decide) (by decide)), p4.kept (FR 116 117 (by decide) (by decide)), p5.kept (FR 117 118 (by decide) (by decide)), p6.kept (FR 118 119 (by decide) (by decide)), p7.kept (FR 119 120 (by decide) (by decide)), p8.kept (FR 120 121 (by decide) (by decide)), p9.kept (FR 121 122 (by decide) (by decide)), p10.kept (FR 122 123 (by decide) (by decide)), p11.kept (FR 123 124 (by decide) (by decide)), p12.kept (FR 124 125 (by decide) (by decide)), p13.kept (FR 125 126 (by decide) (by decide)), np14, np15, np16⟩⟩, hF.wide (ad_ix [112, 113, 126, 127, 128] (by rfl) (by decide))⟩

set_option maxHeartbeats 1000000 in
set_option maxRecDepth 100000 in
theorem k_X11_torn (l : Launch) (dC : Nat → ClassId) (dI : Nat → Nat → Nat) (G : Nat → ClassId) (sz : Nat) (ax : Nat → Nat) (hi : adInj 129 ax) (T : Nat) (Y : Nat → Int32) (fa : Int32) (N : Nat) (B : Nat) (N1 : Nat) (B1 : Nat) (N2 : Nat) (B2 : Nat) (K : Nat → Int32) (S : Nat) (M : Nat) (E : Nat → Int32) (Z : Nat → Int32) : Met l yX11_torn (Cond.code yX11_torn cX11_torn 1 (some .int) :: GT) ({ frames := 0, cells := 0, slots := 0, locals := 0 } : Room) (PcI [.ref (ax 112)] dC dI G (X11I dC dI G ax T Y fa N B N1 B1 N2 B2 K S M E Z) sz) (va_Qi (fun (r : Int32) (_ : Unit) => True) (fun _ t => X11I dC dI G ax T Y fa N B N1 B1 N2 B2 K S M E Z t.heap) (adX 112 129 ax sz)) 0 0 (adX 112 129 ax sz) := by
  refine Met.pick (fun a st hp => ?_)
  obtain ⟨e0, hsz, hI, hK⟩ := hp
  subst hsz
  have hI0 := hI
  unfold X11I at hI
  obtain ⟨p0, p1, p2, p3, p4, p5, p6, p7, p8, p9, p10, p11, p12, p13, p14, p15, p16⟩ := hI
  unfold X11Pr at p0
  obtain ⟨zi112_4, zi112_5, zi112_6, zi112_7, zi112_8, zi112_9, zi112_13, zi112_14, zi112_15, zn112_16, zi112_17, zi112_18, zi112_34, p0j0, p0j1, p0j2, p0j3, p0j4, p0j5, p0j6, q112⟩ := p0
  refine ⟨_, _, _, c_X11_torn l dC dI G _ (ax 112) (ax 113) N B (ax 114) (ax 115) T (ax 116) (ax 117) (ax 118) (ax 119) (ax 120) (ax 121) S (ax 122) M (ax 123) (ax 124) (ax 125) (ax 126) (ax 127) (ax 128) zi112_4 zi112_5 zi112_6 zi112_7 zi112_8 zi112_9 fa zi112_13 zi112_14 zi112_15 (nI zn112_16) zi112_17 zi112_18 zi112_34 (by assumption) (by assumption) (by assumption) (by assumption) (by assumption), ⟨e0, rfl, (vpc q112 va_nilP), hK⟩, fun q h => Or.inr h, fun o t hq => ?_⟩
  obtain ⟨⟨r, u, ho, ⟨hr, hu⟩, -⟩, hF⟩ := hq
  exact ⟨⟨r, (), ho, trivial, hI0.kept (fun j _ _ h => hF.2 _ h (Nat.not_le.mpr h))⟩, hF.wide (fun q h => Or.inr h)⟩

set_option maxHeartbeats 1000000 in
set_option maxRecDepth 100000 in
theorem k_X11_count (l : Launch) (dC : Nat → ClassId) (dI : Nat → Nat → Nat) (G : Nat → ClassId) (sz : Nat) (ax : Nat → Nat) (hi : adInj 129 ax) (T : Nat) (Y : Nat → Int32) (fa : Int32) (N : Nat) (B : Nat) (N1 : Nat) (B1 : Nat) (N2 : Nat) (B2 : Nat) (K : Nat → Int32) (S : Nat) (M : Nat) (E : Nat → Int32) (Z : Nat → Int32) (what : Int32) : Met l yX11_count (Cond.code yX11_count cX11_count 4 (some .int) :: GT) ({ frames := 0, cells := 0, slots := 0, locals := 0 } : Room) (PcI [.ref (ax 112), .int what] dC dI G (X11I dC dI G ax T Y fa N B N1 B1 N2 B2 K S M E Z) sz) (va_Qi (fun (r : Int32) (_ : Unit) => True) (fun _ t => X11I dC dI G ax T Y fa N B N1 B1 N2 B2 K S M E Z t.heap) (adX 112 129 ax sz)) 0 0 (adX 112 129 ax sz) := by
  refine Met.pick (fun a st hp => ?_)
  obtain ⟨e0, hsz, hI, hK⟩ := hp
  subst hsz
  have hI0 := hI
  unfold X11I at hI
  obtain ⟨p0, p1, p2, p3, p4, p5, p6, p7, p8, p9, p10, p11, p12, p13, p14, p15, p16⟩ := hI
  unfold X11Pr at p0
  obtain ⟨zi112_4, zi112_5, zi112_6, zi112_7, zi112_8, zi112_9, zi112_13, zi112_14, zi112_15, zn112_16, zi112_17, zi112_18, zi112_34, p0j0, p0j1, p0j2, p0j3, p0j4, p0j5, p0j6, q112⟩ := p0
  unfold X11P0 at p1
  obtain ⟨zf113, p1j0, q113⟩ := p1
  unfold X11P30 at p13
  have q125 := p13
  unfold X11P31 at p14
  obtain ⟨p14j0, q126⟩ := p14
  unfold X11P32 at p15
  obtain ⟨p15j0, q127⟩ := p15
  refine ⟨_, _, _, c_X11_count l dC dI G _ (ax 112) (ax 113) N B (ax 114) (ax 115) T (ax 116) (ax 117) (ax 118) (ax 119) (ax 120) (ax 121) S (ax 122) M (ax 123) (ax 124) (ax 125) (ax 126) (ax 127) (ax 128) what zi112_4 zi112_5 zi112_6 zi112_7 zi112_8 zi112_9 fa zi112_13 zi112_14 zi112_15 (nI zn112_16) zi112_17 zi112_18 zi112_34 zf113 K (lmap E) Z (by assumption) (by assumption) (by assumption) (by assumption) (by assumption), ⟨e0, rfl, (vpc q112 (vpc q113 (vpc q125 (vpc q126 (vpc q127 va_nilP))))), hK⟩, fun q h => Or.inr h, fun o t hq => ?_⟩
  obtain ⟨⟨r, u, ho, ⟨hr, hu⟩, -⟩, hF⟩ := hq
  exact ⟨⟨r, (), ho, trivial, hI0.kept (fun j _ _ h => hF.2 _ h (Nat.not_le.mpr h))⟩, hF.wide (fun q h => Or.inr h)⟩

set_option maxHeartbeats 1000000 in
set_option maxRecDepth 100000 in
theorem c_X1_init (l : Launch) (dC : Nat → ClassId) (dI : Nat → Nat → Nat) (G : Nat → ClassId) (sz : Nat) (h0 : Nat)  : Met l yX1_init (Cond.code yX1_init cX1_init 1 none :: GT) ({ frames := 1, cells := 0, slots := 0, locals := 24 } : Room) (PcW [.ref h0] dC dI G [(h0, .inr (1, [.int 0, .int 0, .int 0]))] sz) (va_Qv (fun (u : (Nat → Nat)) => match u with | v => True) (fun (u : (Nat → Nat)) (t : State) => match u with | v => va_P (dC, dI) vwCl [(h0, .inr (1, [.int 0, .int 0, .int 0]))] t.heap ∧ va_D (va_A [(h0, .inr (1, [.int 0, .int 0, .int 0]))] sz) [(h0, .inr (1, [.int 0, .int 0, .int 0]))]) (va_A [(h0, .inr (1, [.int 0, .int 0, .int 0]))] sz)) 0 0 (va_A [(h0, .inr (1, [.int 0, .int 0, .int 0]))] sz) := by
  refine Met.ofW (cc := cX1_init) (maxL := 1) (ret := none) (by decide) rfl ?_
  intro p e s m args below meth c s₁ Bd hml hv
  obtain ⟨rfl, hsz, hP, hK, hD0⟩ := hv
  have hx := Bd.exec
  have hb := Bd.bytes
  have hr := Bd.returns
  have hg : ∀ w ∈ GT, w.before ([.ref h0] : List Value).toArray s = true := fun w h => atoms_spec (ws := Cond.code yX1_init cX1_init 1 none :: GT) Bd.pre w (List.mem_cons_of_mem _ h)
  have hown : s.vm.findClass RX1 = some m.cls := findClass_of_methodNamed Bd.named
  have hlocks := Bd.notSynchronized
  have hin : meth.name = "<init>" := (name_of_methodNamed Bd.named Bd.method).1
  subst hsz
  have hD := hD0.self (sz := s.heap.size)
  generalize hAe : va_A [(h0, .inr (1, [.int 0, .int 0, .int 0]))] s.heap.size = A at hD ⊢
  have hA : ∀ q : Nat, s.heap.size ≤ q → A q := fun q h => by rw [← hAe]; exact Or.inr h
  have hS : va_S A s.heap s.heap [] := va_S.rf
  have hl := lv_entry ([.ref h0]) (n := 1) (Nat.le_of_ble_eq_true rfl)
  rw [lg_entry_eq]
  generalize (lg_sl ([.ref h0]) ++ List.replicate (1 - (lg_sl ([.ref h0])).length) Slot.unset).toArray = ls at hl ⊢
  have hl : lv_has ls 1 [(0, .ref h0)] := hl
  refine lv_aload_n hx hb dX1_init_0 rfl (lv_at hl 0 rfl) ?_
  refine W.objInit hx hb hown (hg _ wt_197) (hg _ wt_26) (hg _ wt_27) rfl (by rw [hml]; exact hl.1) rfl dX1_init_1 (Nat.le_of_ble_eq_true rfl) (Nat.le_of_ble_eq_true rfl) ?_
  refine W.eq (g2 := F0 m 4 ls []) rfl ?_
  have hP9 := hP.sub (ws' := [(h0, .inr (1, [.int 0, .int 0, .int 0]))]) [0] rfl
  have hD9 := hD.sub (ws' := [(h0, .inr (1, [.int 0, .int 0, .int 0]))]) [0] (by decide) rfl
  refine W.widen (k := 0) (n := 0) (by omega) (by omega) ?_
  exact W.vret hx hb hr (fun t ht hW => ⟨⟨(fun k => match k with  | _ => 0), rfl, trivial, ⟨by rw [ht]; exact hP9, hD9⟩⟩, hS.F ht⟩) hS.2.2 dX1_init_4

set_option maxHeartbeats 1000000 in
set_option maxRecDepth 100000 in
theorem c_X9_init (l : Launch) (dC : Nat → ClassId) (dI : Nat → Nat → Nat) (G : Nat → ClassId) (sz : Nat) (h0 : Nat)  : Met l yX9_init (Cond.code yX9_init cX9_init 1 none :: GT) ({ frames := 1, cells := 6, slots := 48, locals := 24 } : Room) (PcW [.ref h0] dC dI G [(h0, .inr (9, [.int 0, .int 0, .int 0, .null, .null, .null, .null, .null, .null]))] sz) (va_Qv (fun (u : (Nat → Nat)) => match u with | v => True) (fun (u : (Nat → Nat)) (t : State) => match u with | v => va_P (dC, dI) vwCl [(h0, .inr (9, [.int 0, .int 0, .int 5, .ref (v 0), .ref (v 1), .ref (v 2), .ref (v 3), .ref (v 4), .ref (v 5)])), ((v 0), .inl (G 0, 10, .inl (fun _ => 0))), ((v 1), .inl (G 0, 10, .inl (fun _ => 0))), ((v 2), .inl (G 0, 10, .inl (fun _ => 0))), ((v 3), .inl (G 0, 6, .inl (fun _ => 0))), ((v 4), .inl (G 0, 6, .inl (fun _ => 0))), ((v 5), .inl (G 0, 6, .inl (fun _ => 0)))] t.heap ∧ va_D (va_A [(h0, .inr (9, [.int 0, .int 0, .int 0, .null, .null, .null, .null, .null, .null]))] sz) [(h0, .inr (9, [.int 0, .int 0, .int 5, .ref (v 0), .ref (v 1), .ref (v 2), .ref (v 3), .ref (v 4), .ref (v 5)])), ((v 0), .inl (G 0, 10, .inl (fun _ => 0))), ((v 1), .inl (G 0, 10, .inl (fun _ => 0))), ((v 2), .inl (G 0, 10, .inl (fun _ => 0))), ((v 3), .inl (G 0, 6, .inl (fun _ => 0))), ((v 4), .inl (G 0, 6, .inl (fun _ => 0))), ((v 5), .inl (G 0, 6, .inl (fun _ => 0)))]) (va_A [(h0, .inr (9, [.int 0, .int 0, .int 0, .null, .null, .null, .null, .null, .null]))] sz)) 6 48 (va_A [(h0, .inr (9, [.int 0, .int 0, .int 0, .null, .null, .null, .null, .null, .null]))] sz) := by
  refine Met.ofW (cc := cX9_init) (maxL := 1) (ret := none) (by decide) rfl ?_
  intro p e s m args below meth c s₁ Bd hml hv
  obtain ⟨rfl, hsz, hP, hK, hD0⟩ := hv
  have hx := Bd.exec
  have hb := Bd.bytes
  have hr := Bd.returns
  have hg : ∀ w ∈ GT, w.before ([.ref h0] : List Value).toArray s = true := fun w h => atoms_spec (ws := Cond.code yX9_init cX9_init 1 none :: GT) Bd.pre w (List.mem_cons_of_mem _ h)
  have hown : s.vm.findClass RX9 = some m.cls := findClass_of_methodNamed Bd.named
  have hlocks := Bd.notSynchronized
  have hin : meth.name = "<init>" := (name_of_methodNamed Bd.named Bd.method).1
  subst hsz
  have hD := hD0.self (sz := s.heap.size)
  generalize hAe : va_A [(h0, .inr (9, [.int 0, .int 0, .int 0, .null, .null, .null, .null, .null, .null]))] s.heap.size = A at hD ⊢
  have hA : ∀ q : Nat, s.heap.size ≤ q → A q := fun q h => by rw [← hAe]; exact Or.inr h
  have hS : va_S A s.heap s.heap [] := va_S.rf
  have hl := lv_entry ([.ref h0]) (n := 1) (Nat.le_of_ble_eq_true rfl)
  rw [lg_entry_eq]
  generalize (lg_sl ([.ref h0]) ++ List.replicate (1 - (lg_sl ([.ref h0])).length) Slot.unset).toArray = ls at hl ⊢
  have hl : lv_has ls 1 [(0, .ref h0)] := hl
  refine lv_aload_n hx hb dX9_init_0 rfl (lv_at hl 0 rfl) ?_
  refine W.objInit hx hb hown (hg _ wt_55) (hg _ wt_26) (hg _ wt_27) rfl (by rw [hml]; exact hl.1) rfl dX9_init_1 (Nat.le_of_ble_eq_true rfl) (Nat.le_of_ble_eq_true rfl) ?_
  refine W.eq (g2 := F0 m 4 ls []) rfl ?_
  refine lv_aload_n hx hb dX9_init_4 rfl (lv_at hl 0 rfl) ?_
  refine lv_iconst (v := 5) hx hb dX9_init_5 (by decide) ?_
  refine va_put (D := (dC, dI)) (ci := 9) (v := .int 5) (ty := .int) (C := RX9) (T := TX9) (N := 9) hx hb hg inG9 tyX9 tyX9_ok nmX9 hown hK.1 hP hD hS 0 rfl rfl 2 (by decide) (hg _ wt_66) (fun _ h9 => h9) rfl (by decide +kernel) rfl rfl (Nat.le_of_ble_eq_true rfl) dX9_init_6 (fun H locs hP hD hS => ?_)
  have hP : va_P (dC, dI) vwCl [(h0, .inr (9, [.int 0, .int 0, .int 5, .null, .null, .null, .null, .null, .null]))] H := hP
  have hD : va_D A [(h0, .inr (9, [.int 0, .int 0, .int 5, .null, .null, .null, .null, .null, .null]))] := hD
  refine lv_aload_n hx hb dX9_init_9 rfl (lv_at hl 0 rfl) ?_
  refine lv_bipush (v := 10) hx hb dX9_init_10 (by decide) ?_
  refine va_newa (atype := .int) (N' := 10) (a0 := (10, .inl (fun _ => 0))) hx hb (hg _ wt_49) rfl hK.1 hP hD hS hA (fun _ => rfl) (by decide) (by decide) (by decide) (Nat.le_of_ble_eq_true rfl) (Nat.le_of_ble_eq_true rfl) dX9_init_12 (fun q1 cA H hK9 hP hD hS => ?_)
  obtain rfl := uniA hK9 0 rfl
  have hP : va_P (dC, dI) vwCl [(h0, .inr (9, [.int 0, .int 0, .int 5, .null, .null, .null, .null, .null, .null])), (q1, .inl (G 0, 10, .inl (fun _ => 0)))] H := hP
  have hD : va_D A [(h0, .inr (9, [.int 0, .int 0, .int 5, .null, .null, .null, .null, .null, .null])), (q1, .inl (G 0, 10, .inl (fun _ => 0)))] := hD
  refine W.widen (k := 1) (n := 10) (by omega) (by omega) ?_
  refine va_putF (D := (dC, dI)) (ci := 9) (v := .ref q1) (ty := (.array .int)) (C := RX9) (T := TX9) (N := 9) hx hb hg inG9 tyX9 tyX9_ok nmX9 hown hK.1 hP hD hS 0 rfl rfl 3 (by decide) (hg _ wt_73) (fun _ h9 => h9) rfl hin rfl (by decide +kernel) rfl rfl (Nat.le_of_ble_eq_true rfl) dX9_init_14 (fun H locs hP hD hS => ?_)
  have hP : va_P (dC, dI) vwCl [(h0, .inr (9, [.int 0, .int 0, .int 5, .ref q1, .null, .null, .null, .null, .null])), (q1, .inl (G 0, 10, .inl (fun _ => 0)))] H := hP
  have hD : va_D A [(h0, .inr (9, [.int 0, .int 0, .int 5, .ref q1, .null, .null, .null, .null, .null])), (q1, .inl (G 0, 10, .inl (fun _ => 0)))] := hD
  refine lv_aload_n hx hb dX9_init_17 rfl (lv_at hl 0 rfl) ?_
  refine lv_bipush (v := 10) hx hb dX9_init_18 (by decide) ?_
  refine va_newa (atype := .int) (N' := 10) (a0 := (10, .inl (fun _ => 0))) hx hb (hg _ wt_49) rfl hK.1 hP hD hS hA (fun _ => rfl) (by decide) (by decide) (by decide) (Nat.le_of_ble_eq_true rfl) (Nat.le_of_ble_eq_true rfl) dX9_init_20 (fun q2 cA H hK9 hP hD hS => ?_)
  obtain rfl := uniA hK9 0 rfl
  have hP : va_P (dC, dI) vwCl [(h0, .inr (9, [.int 0, .int 0, .int 5, .ref q1, .null, .null, .null, .null, .null])), (q1, .inl (G 0, 10, .inl (fun _ => 0))), (q2, .inl (G 0, 10, .inl (fun _ => 0)))] H := hP
  have hD : va_D A [(h0, .inr (9, [.int 0, .int 0, .int 5, .ref q1, .null, .null, .null, .null, .null])), (q1, .inl (G 0, 10, .inl (fun _ => 0))), (q2, .inl (G 0, 10, .inl (fun _ => 0)))] := hD
  refine W.widen (k := 2) (n := 20) (by omega) (by omega) ?_
  refine va_putF (D := (dC, dI)) (ci := 9) (v := .ref q2) (ty := (.array .int)) (C := RX9) (T := TX9) (N := 9) hx hb hg inG9 tyX9 tyX9_ok nmX9 hown hK.1 hP hD hS 0 rfl rfl 4 (by decide) (hg _ wt_75) (fun _ h9 => h9) rfl hin rfl (by decide +kernel) rfl rfl (Nat.le_of_ble_eq_true rfl) dX9_init_22 (fun H locs hP hD hS => ?_)
  have hP : va_P (dC, dI) vwCl [(h0, .inr (9, [.int 0, .int 0, .int 5, .ref q1, .ref q2, .null, .null, .null, .null])), (q1, .inl (G 0, 10, .inl (fun _ => 0))), (q2, .inl (G 0, 10, .inl (fun _ => 0)))] H := hP
  have hD : va_D A [(h0, .inr (9, [.int 0, .int 0, .int 5, .ref q1, .ref q2, .null, .null, .null, .null])), (q1, .inl (G 0, 10, .inl (fun _ => 0))), (q2, .inl (G 0, 10, .inl (fun _ => 0)))] := hD
  refine lv_aload_n hx hb dX9_init_25 rfl (lv_at hl 0 rfl) ?_
  refine lv_bipush (v := 10) hx hb dX9_init_26 (by decide) ?_
  refine va_newa (atype := .int) (N' := 10) (a0 := (10, .inl (fun _ => 0))) hx hb (hg _ wt_49) rfl hK.1 hP hD hS hA (fun _ => rfl) (by decide) (by decide) (by decide) (Nat.le_of_ble_eq_true rfl) (Nat.le_of_ble_eq_true rfl) dX9_init_28 (fun q3 cA H hK9 hP hD hS => ?_)
  obtain rfl := uniA hK9 0 rfl
  have hP : va_P (dC, dI) vwCl [(h0, .inr (9, [.int 0, .int 0, .int 5, .ref q1, .ref q2, .null, .null, .null, .null])), (q1, .inl (G 0, 10, .inl (fun _ => 0))), (q2, .inl (G 0, 10, .inl (fun _ => 0))), (q3, .inl (G 0, 10, .inl (fun _ => 0)))] H := hP
  have hD : va_D A [(h0, .inr (9, [.int 0, .int 0, .int 5, .ref q1, .ref q2, .null, .null, .null, .null])), (q1, .inl (G 0, 10, .inl (fun _ => 0))), (q2, .inl (G 0, 10, .inl (fun _ => 0))), (q3, .inl (G 0, 10, .inl (fun _ => 0)))] := hD
  refine W.widen (k := 3) (n := 30) (by omega) (by omega) ?_
  refine va_putF (D := (dC, dI)) (ci := 9) (v := .ref q3) (ty := (.array .int)) (C := RX9) (T := TX9) (N := 9) hx hb hg inG9 tyX9 tyX9_ok nmX9 hown hK.1 hP hD hS 0 rfl rfl 5 (by decide) (hg _ wt_77) (fun _ h9 => h9) rfl hin rfl (by decide +kernel) rfl rfl (Nat.le_of_ble_eq_true rfl) dX9_init_30 (fun H locs hP hD hS => ?_)
  have hP : va_P (dC, dI) vwCl [(h0, .inr (9, [.int 0, .int 0, .int 5, .ref q1, .ref q2, .ref q3, .null, .null, .null])), (q1, .inl (G 0, 10, .inl (fun _ => 0))), (q2, .inl (G 0, 10, .inl (fun _ => 0))), (q3, .inl (G 0, 10, .inl (fun _ => 0)))] H := hP
  have hD : va_D A [(h0, .inr (9, [.int 0, .int 0, .int 5, .ref q1, .ref q2, .ref q3, .null, .null, .null])), (q1, .inl (G 0, 10, .inl (fun _ => 0))), (q2, .inl (G 0, 10, .inl (fun _ => 0))), (q3, .inl (G 0, 10, .inl (fun _ => 0)))] := hD
  refine lv_aload_n hx hb dX9_init_33 rfl (lv_at hl 0 rfl) ?_
  refine lv_bipush (v := 6) hx hb dX9_init_34 (by decide) ?_
  refine va_newa (atype := .int) (N' := 6) (a0 := (6, .inl (fun _ => 0))) hx hb (hg _ wt_49) rfl hK.1 hP hD hS hA (fun _ => rfl) (by decide) (by decide) (by decide) (Nat.le_of_ble_eq_true rfl) (Nat.le_of_ble_eq_true rfl) dX9_init_36 (fun q4 cA H hK9 hP hD hS => ?_)
  obtain rfl := uniA hK9 0 rfl
  have hP : va_P (dC, dI) vwCl [(h0, .inr (9, [.int 0, .int 0, .int 5, .ref q1, .ref q2, .ref q3, .null, .null, .null])), (q1, .inl (G 0, 10, .inl (fun _ => 0))), (q2, .inl (G 0, 10, .inl (fun _ => 0))), (q3, .inl (G 0, 10, .inl (fun _ => 0))), (q4, .inl (G 0, 6, .inl (fun _ => 0)))] H := hP
  have hD : va_D A [(h0, .inr (9, [.int 0, .int 0, .int 5, .ref q1, .ref q2, .ref q3, .null, .null, .null])), (q1, .inl (G 0, 10, .inl (fun _ => 0))), (q2, .inl (G 0, 10, .inl (fun _ => 0))), (q3, .inl (G 0, 10, .inl (fun _ => 0))), (q4, .inl (G 0, 6, .inl (fun _ => 0)))] := hD
  refine W.widen (k := 4) (n := 36) (by omega) (by omega) ?_
  refine va_putF (D := (dC, dI)) (ci := 9) (v := .ref q4) (ty := (.array .int)) (C := RX9) (T := TX9) (N := 9) hx hb hg inG9 tyX9 tyX9_ok nmX9 hown hK.1 hP hD hS 0 rfl rfl 6 (by decide) (hg _ wt_80) (fun _ h9 => h9) rfl hin rfl (by decide +kernel) rfl rfl (Nat.le_of_ble_eq_true rfl) dX9_init_38 (fun H locs hP hD hS => ?_)
  have hP : va_P (dC, dI) vwCl [(h0, .inr (9, [.int 0, .int 0, .int 5, .ref q1, .ref q2, .ref q3, .ref q4, .null, .null])), (q1, .inl (G 0, 10, .inl (fun _ => 0))), (q2, .inl (G 0, 10, .inl (fun _ => 0))), (q3, .inl (G 0, 10, .inl (fun _ => 0))), (q4, .inl (G 0, 6, .inl (fun _ => 0)))] H := hP
  have hD : va_D A [(h0, .inr (9, [.int 0, .int 0, .int 5, .ref q1, .ref q2, .ref q3, .ref q4, .null, .null])), (q1, .inl (G 0, 10, .inl (fun _ => 0))), (q2, .inl (G 0, 10, .inl (fun _ => 0))), (q3, .inl (G 0, 10, .inl (fun _ => 0))), (q4, .inl (G 0, 6, .inl (fun _ => 0)))] := hD
  refine lv_aload_n hx hb dX9_init_41 rfl (lv_at hl 0 rfl) ?_
  refine lv_bipush (v := 6) hx hb dX9_init_42 (by decide) ?_
  refine va_newa (atype := .int) (N' := 6) (a0 := (6, .inl (fun _ => 0))) hx hb (hg _ wt_49) rfl hK.1 hP hD hS hA (fun _ => rfl) (by decide) (by decide) (by decide) (Nat.le_of_ble_eq_true rfl) (Nat.le_of_ble_eq_true rfl) dX9_init_44 (fun q5 cA H hK9 hP hD hS => ?_)
  obtain rfl := uniA hK9 0 rfl
  have hP : va_P (dC, dI) vwCl [(h0, .inr (9, [.int 0, .int 0, .int 5, .ref q1, .ref q2, .ref q3, .ref q4, .null, .null])), (q1, .inl (G 0, 10, .inl (fun _ => 0))), (q2, .inl (G 0, 10, .inl (fun _ => 0))), (q3, .inl (G 0, 10, .inl (fun _ => 0))), (q4, .inl (G 0, 6, .inl (fun _ => 0))), (q5, .inl (G 0, 6, .inl (fun _ => 0)))] H := hP
  have hD : va_D A [(h0, .inr (9, [.int 0, .int 0, .int 5, .ref q1, .ref q2, .ref q3, .ref q4, .null, .null])), (q1, .inl (G 0, 10, .inl (fun _ => 0))), (q2, .inl (G 0, 10, .inl (fun _ => 0))), (q3, .inl (G 0, 10, .inl (fun _ => 0))), (q4, .inl (G 0, 6, .inl (fun _ => 0))), (q5, .inl (G 0, 6, .inl (fun _ => 0)))] := hD
  refine W.widen (k := 5) (n := 42) (by omega) (by omega) ?_
  refine va_putF (D := (dC, dI)) (ci := 9) (v := .ref q5) (ty := (.array .int)) (C := RX9) (T := TX9) (N := 9) hx hb hg inG9 tyX9 tyX9_ok nmX9 hown hK.1 hP hD hS 0 rfl rfl 7 (by decide) (hg _ wt_82) (fun _ h9 => h9) rfl hin rfl (by decide +kernel) rfl rfl (Nat.le_of_ble_eq_true rfl) dX9_init_46 (fun H locs hP hD hS => ?_)
  have hP : va_P (dC, dI) vwCl [(h0, .inr (9, [.int 0, .int 0, .int 5, .ref q1, .ref q2, .ref q3, .ref q4, .ref q5, .null])), (q1, .inl (G 0, 10, .inl (fun _ => 0))), (q2, .inl (G 0, 10, .inl (fun _ => 0))), (q3, .inl (G 0, 10, .inl (fun _ => 0))), (q4, .inl (G 0, 6, .inl (fun _ => 0))), (q5, .inl (G 0, 6, .inl (fun _ => 0)))] H := hP
  have hD : va_D A [(h0, .inr (9, [.int 0, .int 0, .int 5, .ref q1, .ref q2, .ref q3, .ref q4, .ref q5, .null])), (q1, .inl (G 0, 10, .inl (fun _ => 0))), (q2, .inl (G 0, 10, .inl (fun _ => 0))), (q3, .inl (G 0, 10, .inl (fun _ => 0))), (q4, .inl (G 0, 6, .inl (fun _ => 0))), (q5, .inl (G 0, 6, .inl (fun _ => 0)))] := hD
  refine lv_aload_n hx hb dX9_init_49 rfl (lv_at hl 0 rfl) ?_
  refine lv_bipush (v := 6) hx hb dX9_init_50 (by decide) ?_
  refine va_newa (atype := .int) (N' := 6) (a0 := (6, .inl (fun _ => 0))) hx hb (hg _ wt_49) rfl hK.1 hP hD hS hA (fun _ => rfl) (by decide) (by decide) (by decide) (Nat.le_of_ble_eq_true rfl) (Nat.le_of_ble_eq_true rfl) dX9_init_52 (fun q6 cA H hK9 hP hD hS => ?_)
  obtain rfl := uniA hK9 0 rfl
  have hP : va_P (dC, dI) vwCl [(h0, .inr (9, [.int 0, .int 0, .int 5, .ref q1, .ref q2, .ref q3, .ref q4, .ref q5, .null])), (q1, .inl (G 0, 10, .inl (fun _ => 0))), (q2, .inl (G 0, 10, .inl (fun _ => 0))), (q3, .inl (G 0, 10, .inl (fun _ => 0))), (q4, .inl (G 0, 6, .inl (fun _ => 0))), (q5, .inl (G 0, 6, .inl (fun _ => 0))), (q6, .inl (G 0, 6, .inl (fun _ => 0)))] H := hP
  have hD : va_D A [(h0, .inr (9, [.int 0, .int 0, .int 5, .ref q1, .ref q2, .ref q3, .ref q4, .ref q5, .null])), (q1, .inl (G 0, 10, .inl (fun _ => 0))), (q2, .inl (G 0, 10, .inl (fun _ => 0))), (q3, .inl (G 0, 10, .inl (fun _ => 0))), (q4, .inl (G 0, 6, .inl (fun _ => 0))), (q5, .inl (G 0, 6, .inl (fun _ => 0))), (q6, .inl (G 0, 6, .inl (fun _ => 0)))] := hD
  refine W.widen (k := 6) (n := 48) (by omega) (by omega) ?_
  refine va_putF (D := (dC, dI)) (ci := 9) (v := .ref q6) (ty := (.array .int)) (C := RX9) (T := TX9) (N := 9) hx hb hg inG9 tyX9 tyX9_ok nmX9 hown hK.1 hP hD hS 0 rfl rfl 8 (by decide) (hg _ wt_84) (fun _ h9 => h9) rfl hin rfl (by decide +kernel) rfl rfl (Nat.le_of_ble_eq_true rfl) dX9_init_54 (fun H locs hP hD hS => ?_)
  have hP : va_P (dC, dI) vwCl [(h0, .inr (9, [.int 0, .int 0, .int 5, .ref q1, .ref q2, .ref q3, .ref q4, .ref q5, .ref q6])), (q1, .inl (G 0, 10, .inl (fun _ => 0))), (q2, .inl (G 0, 10, .inl (fun _ => 0))), (q3, .inl (G 0, 10, .inl (fun _ => 0))), (q4, .inl (G 0, 6, .inl (fun _ => 0))), (q5, .inl (G 0, 6, .inl (fun _ => 0))), (q6, .inl (G 0, 6, .inl (fun _ => 0)))] H := hP
  have hD : va_D A [(h0, .inr (9, [.int 0, .int 0, .int 5, .ref q1, .ref q2, .ref q3, .ref q4, .ref q5, .ref q6])), (q1, .inl (G 0, 10, .inl (fun _ => 0))), (q2, .inl (G 0, 10, .inl (fun _ => 0))), (q3, .inl (G 0, 10, .inl (fun _ => 0))), (q4, .inl (G 0, 6, .inl (fun _ => 0))), (q5, .inl (G 0, 6, .inl (fun _ => 0))), (q6, .inl (G 0, 6, .inl (fun _ => 0)))] := hD
  have hP9 := hP.sub (ws' := [(h0, .inr (9, [.int 0, .int 0, .int 5, .ref q1, .ref q2, .ref q3, .ref q4, .ref q5, .ref q6])), (q1, .inl (G 0, 10, .inl (fun _ => 0))), (q2, .inl (G 0, 10, .inl (fun _ => 0))), (q3, .inl (G 0, 10, .inl (fun _ => 0))), (q4, .inl (G 0, 6, .inl (fun _ => 0))), (q5, .inl (G 0, 6, .inl (fun _ => 0))), (q6, .inl (G 0, 6, .inl (fun _ => 0)))]) [0, 1, 2, 3, 4, 5, 6] rfl
  have hD9 := hD.sub (ws' := [(h0, .inr (9, [.int 0, .int 0, .int 5, .ref q1, .ref q2, .ref q3, .ref q4, .ref q5, .ref q6])), (q1, .inl (G 0, 10, .inl (fun _ => 0))), (q2, .inl (G 0, 10, .inl (fun _ => 0))), (q3, .inl (G 0, 10, .inl (fun _ => 0))), (q4, .inl (G 0, 6, .inl (fun _ => 0))), (q5, .inl (G 0, 6, .inl (fun _ => 0))), (q6, .inl (G 0, 6, .inl (fun _ => 0)))]) [0, 1, 2, 3, 4, 5, 6] (by decide) rfl
  refine W.widen (k := 6) (n := 48) (by omega) (by omega) ?_
  exact W.vret hx hb hr (fun t ht hW => ⟨⟨(fun k => match k with | 0 => q1 | 1 => q2 | 2 => q3 | 3 => q4 | 4 => q5 | 5 => q6 | _ => 0), rfl, trivial, ⟨by rw [ht]; exact hP9, hD9⟩⟩, hS.F ht⟩) hS.2.2 dX9_init_57

set_option maxHeartbeats 1000000 in
set_option maxRecDepth 100000 in
theorem c_X7_init (l : Launch) (dC : Nat → ClassId) (dI : Nat → Nat → Nat) (G : Nat → ClassId) (sz : Nat) (h0 : Nat)  : Met l yX7_init (Cond.code yX7_init cX7_init 1 none :: GT) ({ frames := 1, cells := 1, slots := 320, locals := 24 } : Room) (PcW [.ref h0] dC dI G [(h0, .inr (7, [.int 0, .null]))] sz) (va_Qv (fun (u : (Nat → Nat)) => match u with | v => True) (fun (u : (Nat → Nat)) (t : State) => match u with | v => va_P (dC, dI) vwCl [(h0, .inr (7, [.int 0, .ref (v 0)])), ((v 0), .inl (G 0, 320, .inl (fun _ => 0)))] t.heap ∧ va_D (va_A [(h0, .inr (7, [.int 0, .null]))] sz) [(h0, .inr (7, [.int 0, .ref (v 0)])), ((v 0), .inl (G 0, 320, .inl (fun _ => 0)))]) (va_A [(h0, .inr (7, [.int 0, .null]))] sz)) 1 320 (va_A [(h0, .inr (7, [.int 0, .null]))] sz) := by
  refine Met.ofW (cc := cX7_init) (maxL := 1) (ret := none) (by decide) rfl ?_
  intro p e s m args below meth c s₁ Bd hml hv
  obtain ⟨rfl, hsz, hP, hK, hD0⟩ := hv
  have hx := Bd.exec
  have hb := Bd.bytes
  have hr := Bd.returns
  have hg : ∀ w ∈ GT, w.before ([.ref h0] : List Value).toArray s = true := fun w h => atoms_spec (ws := Cond.code yX7_init cX7_init 1 none :: GT) Bd.pre w (List.mem_cons_of_mem _ h)
  have hown : s.vm.findClass RX7 = some m.cls := findClass_of_methodNamed Bd.named
  have hlocks := Bd.notSynchronized
  have hin : meth.name = "<init>" := (name_of_methodNamed Bd.named Bd.method).1
  subst hsz
  have hD := hD0.self (sz := s.heap.size)
  generalize hAe : va_A [(h0, .inr (7, [.int 0, .null]))] s.heap.size = A at hD ⊢
  have hA : ∀ q : Nat, s.heap.size ≤ q → A q := fun q h => by rw [← hAe]; exact Or.inr h
  have hS : va_S A s.heap s.heap [] := va_S.rf
  have hl := lv_entry ([.ref h0]) (n := 1) (Nat.le_of_ble_eq_true rfl)
  rw [lg_entry_eq]
  generalize (lg_sl ([.ref h0]) ++ List.replicate (1 - (lg_sl ([.ref h0])).length) Slot.unset).toArray = ls at hl ⊢
  have hl : lv_has ls 1 [(0, .ref h0)] := hl
  refine lv_aload_n hx hb dX7_init_0 rfl (lv_at hl 0 rfl) ?_
  refine W.objInit hx hb hown (hg _ wt_39) (hg _ wt_26) (hg _ wt_27) rfl (by rw [hml]; exact hl.1) rfl dX7_init_1 (Nat.le_of_ble_eq_true rfl) (Nat.le_of_ble_eq_true rfl) ?_
  refine W.eq (g2 := F0 m 4 ls []) rfl ?_
  refine lv_aload_n hx hb dX7_init_4 rfl (lv_at hl 0 rfl) ?_
  refine lv_sipush (v := 320) hx hb dX7_init_5 (by decide) ?_
  refine va_newa (atype := .int) (N' := 320) (a0 := (320, .inl (fun _ => 0))) hx hb (hg _ wt_49) rfl hK.1 hP hD hS hA (fun _ => rfl) (by decide) (by decide) (by decide) (Nat.le_of_ble_eq_true rfl) (Nat.le_of_ble_eq_true rfl) dX7_init_8 (fun q1 cA H hK9 hP hD hS => ?_)
  obtain rfl := uniA hK9 0 rfl
  have hP : va_P (dC, dI) vwCl [(h0, .inr (7, [.int 0, .null])), (q1, .inl (G 0, 320, .inl (fun _ => 0)))] H := hP
  have hD : va_D A [(h0, .inr (7, [.int 0, .null])), (q1, .inl (G 0, 320, .inl (fun _ => 0)))] := hD
  refine W.widen (k := 1) (n := 320) (by omega) (by omega) ?_
  refine va_putF (D := (dC, dI)) (ci := 7) (v := .ref q1) (ty := (.array .int)) (C := RX7) (T := TX7) (N := 2) hx hb hg inG7 tyX7 tyX7_ok nmX7 hown hK.1 hP hD hS 0 rfl rfl 1 (by decide) (hg _ wt_43) (fun _ h9 => h9) rfl hin rfl (by decide +kernel) rfl rfl (Nat.le_of_ble_eq_true rfl) dX7_init_10 (fun H locs hP hD hS => ?_)
  have hP : va_P (dC, dI) vwCl [(h0, .inr (7, [.int 0, .ref q1])), (q1, .inl (G 0, 320, .inl (fun _ => 0)))] H := hP
  have hD : va_D A [(h0, .inr (7, [.int 0, .ref q1])), (q1, .inl (G 0, 320, .inl (fun _ => 0)))] := hD
  have hP9 := hP.sub (ws' := [(h0, .inr (7, [.int 0, .ref q1])), (q1, .inl (G 0, 320, .inl (fun _ => 0)))]) [0, 1] rfl
  have hD9 := hD.sub (ws' := [(h0, .inr (7, [.int 0, .ref q1])), (q1, .inl (G 0, 320, .inl (fun _ => 0)))]) [0, 1] (by decide) rfl
  refine W.widen (k := 1) (n := 320) (by omega) (by omega) ?_
  exact W.vret hx hb hr (fun t ht hW => ⟨⟨(fun k => match k with | 0 => q1 | _ => 0), rfl, trivial, ⟨by rw [ht]; exact hP9, hD9⟩⟩, hS.F ht⟩) hS.2.2 dX7_init_13

set_option maxHeartbeats 1000000 in
set_option maxRecDepth 100000 in
theorem c_X5_init (l : Launch) (dC : Nat → ClassId) (dI : Nat → Nat → Nat) (G : Nat → ClassId) (sz : Nat) (h0 : Nat)  : Met l yX5_init (Cond.code yX5_init cX5_init 1 none :: GT) ({ frames := 2, cells := 9, slots := 379, locals := 44 } : Room) (PcW [.ref h0] dC dI G [(h0, .inr (5, [.null, .null, .int 0, .int 0, .int 0, .int 0, .int 0, .int 0, .int 0, .int 0, .int 0, .int 0]))] sz) (va_Qv (fun (u : (Nat → Nat)) => match u with | v => True) (fun (u : (Nat → Nat)) (t : State) => match u with | v => va_P (dC, dI) vwCl [(h0, .inr (5, [.ref (v 0), .ref (v 1), .int 0, .int 0, .int 0, .int 0, .int 0, .int 0, .int 0, .int 0, .int 0, .int 0])), ((v 0), .inr (7, [.int 0, .ref (v 2)])), ((v 2), .inl (G 0, 320, .inl (fun _ => 0))), ((v 1), .inr (9, [.int 0, .int 0, .int 5, .ref (v 3), .ref (v 4), .ref (v 5), .ref (v 6), .ref (v 7), .ref (v 8)])), ((v 3), .inl (G 0, 10, .inl (fun _ => 0))), ((v 4), .inl (G 0, 10, .inl (fun _ => 0))), ((v 5), .inl (G 0, 10, .inl (fun _ => 0))), ((v 6), .inl (G 0, 6, .inl (fun _ => 0))), ((v 7), .inl (G 0, 6, .inl (fun _ => 0))), ((v 8), .inl (G 0, 6, .inl (fun _ => 0)))] t.heap ∧ va_D (va_A [(h0, .inr (5, [.null, .null, .int 0, .int 0, .int 0, .int 0, .int 0, .int 0, .int 0, .int 0, .int 0, .int 0]))] sz) [(h0, .inr (5, [.ref (v 0), .ref (v 1), .int 0, .int 0, .int 0, .int 0, .int 0, .int 0, .int 0, .int 0, .int 0, .int 0])), ((v 0), .inr (7, [.int 0, .ref (v 2)])), ((v 2), .inl (G 0, 320, .inl (fun _ => 0))), ((v 1), .inr (9, [.int 0, .int 0, .int 5, .ref (v 3), .ref (v 4), .ref (v 5), .ref (v 6), .ref (v 7), .ref (v 8)])), ((v 3), .inl (G 0, 10, .inl (fun _ => 0))), ((v 4), .inl (G 0, 10, .inl (fun _ => 0))), ((v 5), .inl (G 0, 10, .inl (fun _ => 0))), ((v 6), .inl (G 0, 6, .inl (fun _ => 0))), ((v 7), .inl (G 0, 6, .inl (fun _ => 0))), ((v 8), .inl (G 0, 6, .inl (fun _ => 0)))]) (va_A [(h0, .inr (5, [.null, .null, .int 0, .int 0, .int 0, .int 0, .int 0, .int 0, .int 0, .int 0, .int 0, .int 0]))] sz)) 9 379 (va_A [(h0, .inr (5, [.null, .null, .int 0, .int 0, .int 0, .int 0, .int 0, .int 0, .int 0, .int 0, .int 0, .int 0]))] sz) := by
  refine Met.ofW (cc := cX5_init) (maxL := 1) (ret := none) (by decide) rfl ?_
  intro p e s m args below meth c s₁ Bd hml hv
  obtain ⟨rfl, hsz, hP, hK, hD0⟩ := hv
  have hx := Bd.exec
  have hb := Bd.bytes
  have hr := Bd.returns
  have hg : ∀ w ∈ GT, w.before ([.ref h0] : List Value).toArray s = true := fun w h => atoms_spec (ws := Cond.code yX5_init cX5_init 1 none :: GT) Bd.pre w (List.mem_cons_of_mem _ h)
  have hown : s.vm.findClass RX5 = some m.cls := findClass_of_methodNamed Bd.named
  have hlocks := Bd.notSynchronized
  have hin : meth.name = "<init>" := (name_of_methodNamed Bd.named Bd.method).1
  subst hsz
  have hD := hD0.self (sz := s.heap.size)
  generalize hAe : va_A [(h0, .inr (5, [.null, .null, .int 0, .int 0, .int 0, .int 0, .int 0, .int 0, .int 0, .int 0, .int 0, .int 0]))] s.heap.size = A at hD ⊢
  have hA : ∀ q : Nat, s.heap.size ≤ q → A q := fun q h => by rw [← hAe]; exact Or.inr h
  have hS : va_S A s.heap s.heap [] := va_S.rf
  have hl := lv_entry ([.ref h0]) (n := 1) (Nat.le_of_ble_eq_true rfl)
  rw [lg_entry_eq]
  generalize (lg_sl ([.ref h0]) ++ List.replicate (1 - (lg_sl ([.ref h0])).length) Slot.unset).toArray = ls at hl ⊢
  have hl : lv_has ls 1 [(0, .ref h0)] := hl
  refine lv_aload_n hx hb dX5_init_0 rfl (lv_at hl 0 rfl) ?_
  refine W.objInit hx hb hown (hg _ wt_33) (hg _ wt_26) (hg _ wt_27) rfl (by rw [hml]; exact hl.1) rfl dX5_init_1 (Nat.le_of_ble_eq_true rfl) (Nat.le_of_ble_eq_true rfl) ?_
  refine W.eq (g2 := F0 m 4 ls []) rfl ?_
  refine lv_aload_n hx hb dX5_init_4 rfl (lv_at hl 0 rfl) ?_
  refine va_new (ci := 7) (fs := [.int 0, .null]) (C := RX7) (T := TX7) (N := 2) hx hb hg inG7 tyX7 tyX7_ok hown (hg _ wt_34) (hg _ wt_35) (hg _ wt_3) hK.1 hP hD hS hA rfl nwX7 (Nat.le_of_ble_eq_true rfl) (Nat.le_of_ble_eq_true rfl) dX5_init_5 (fun q1 H hP hD hS => ?_)
  have hP : va_P (dC, dI) vwCl [(h0, .inr (5, [.null, .null, .int 0, .int 0, .int 0, .int 0, .int 0, .int 0, .int 0, .int 0, .int 0, .int 0])), (q1, .inr (7, [.int 0, .null]))] H := hP
  have hD : va_D A [(h0, .inr (5, [.null, .null, .int 0, .int 0, .int 0, .int 0, .int 0, .int 0, .int 0, .int 0, .int 0, .int 0])), (q1, .inr (7, [.int 0, .null]))] := hD
  refine W.widen (k := 1) (n := 2) (by omega) (by omega) ?_
  refine lv_dup hx hb dX5_init_8 rfl ?_
  have hPc := hP.sub (ws' := [(q1, .inr (7, [.int 0, .null]))]) [1] rfl
  have hDc := hD.sub (ws' := [(q1, .inr (7, [.int 0, .null]))]) [1] (by decide) rfl
  have hFc := va_free (wc := [(q1, .inr (7, [.int 0, .null]))]) hD hS hA [1] rfl
  refine va_callv (va_runIN (As := []) (rest := [.ref q1, .ref h0]) ⟨hx, hb, hml, hown, hg⟩ (c_X7_init l dC dI G _ q1 ) (kwIN hg hK mfX7_init wn_36 ⟨Nat.le_of_ble_eq_true rfl, Nat.le_of_ble_eq_true rfl⟩) (preSW hK hPc hDc) rfl rfl hl.1 rfl (lv_room (Nat.le_of_ble_eq_true rfl)) dX5_init_9 ⟨Nat.le_of_ble_eq_true rfl, Nat.le_of_ble_eq_true rfl⟩) hS (fun q _ h => hFc q h) hFc (fun ur2 t H1 locs ht hvm w3 hB hz1 hk1 hS => ?_)
  obtain ⟨u4, rfl⟩ : ∃ z, z = ur2 := ⟨_, rfl⟩
  obtain ⟨hP1, hD1⟩ := hB
  rw [ht] at hP1
  obtain ⟨hP, hD⟩ := va_join (wr := [(h0, .inr (5, [.null, .null, .int 0, .int 0, .int 0, .int 0, .int 0, .int 0, .int 0, .int 0, .int 0, .int 0]))]) (w1 := [(q1, .inr (7, [.int 0, .ref (u4 0)])), ((u4 0), .inl (G 0, 320, .inl (fun _ => 0)))]) hP hD [1] [0] rfl rfl (by decide) (by decide) hk1 hFc hP1 hD1
  generalize H1 = H at hP hS ⊢
  have hP : va_P (dC, dI) vwCl [(h0, .inr (5, [.null, .null, .int 0, .int 0, .int 0, .int 0, .int 0, .int 0, .int 0, .int 0, .int 0, .int 0])), (q1, .inr (7, [.int 0, .ref (u4 0)])), ((u4 0), .inl (G 0, 320, .inl (fun _ => 0)))] H := hP
  have hD : va_D A [(h0, .inr (5, [.null, .null, .int 0, .int 0, .int 0, .int 0, .int 0, .int 0, .int 0, .int 0, .int 0, .int 0])), (q1, .inr (7, [.int 0, .ref (u4 0)])), ((u4 0), .inl (G 0, 320, .inl (fun _ => 0)))] := hD
  refine W.widen (k := 2) (n := 322) (by omega) (by omega) ?_
  refine va_putF (D := (dC, dI)) (ci := 5) (v := .ref q1) (ty := (.object "AsleepPass$Tape")) (C := RX5) (T := TX5) (N := 12) hx hb hg inG5 tyX5 tyX5_ok nmX5 hown hK.1 hP hD hS 0 rfl rfl 0 (by decide) (hg _ wt_105) (fun _ h9 => h9) rfl hin rfl (by decide +kernel) rfl rfl (Nat.le_of_ble_eq_true rfl) dX5_init_12 (fun H locs hP hD hS => ?_)
  have hP : va_P (dC, dI) vwCl [(h0, .inr (5, [.ref q1, .null, .int 0, .int 0, .int 0, .int 0, .int 0, .int 0, .int 0, .int 0, .int 0, .int 0])), (q1, .inr (7, [.int 0, .ref (u4 0)])), ((u4 0), .inl (G 0, 320, .inl (fun _ => 0)))] H := hP
  have hD : va_D A [(h0, .inr (5, [.ref q1, .null, .int 0, .int 0, .int 0, .int 0, .int 0, .int 0, .int 0, .int 0, .int 0, .int 0])), (q1, .inr (7, [.int 0, .ref (u4 0)])), ((u4 0), .inl (G 0, 320, .inl (fun _ => 0)))] := hD
  refine lv_aload_n hx hb dX5_init_15 rfl (lv_at hl 0 rfl) ?_
  refine va_new (ci := 9) (fs := [.int 0, .int 0, .int 0, .null, .null, .null, .null, .null, .null]) (C := RX9) (T := TX9) (N := 9) hx hb hg inG9 tyX9 tyX9_ok hown (hg _ wt_50) (hg _ wt_51) (hg _ wt_4) hK.1 hP hD hS hA rfl nwX9 (Nat.le_of_ble_eq_true rfl) (Nat.le_of_ble_eq_true rfl) dX5_init_16 (fun q5 H hP hD hS => ?_)
  have hP : va_P (dC, dI) vwCl [(h0, .inr (5, [.ref q1, .null, .int 0, .int 0, .int 0, .int 0, .int 0, .int 0, .int 0, .int 0, .int 0, .int 0])), (q1, .inr (7, [.int 0, .ref (u4 0)])), ((u4 0), .inl (G 0, 320, .inl (fun _ => 0))), (q5, .inr (9, [.int 0, .int 0, .int 0, .null, .null, .null, .null, .null, .null]))] H := hP
  have hD : va_D A [(h0, .inr (5, [.ref q1, .null, .int 0, .int 0, .int 0, .int 0, .int 0, .int 0, .int 0, .int 0, .int 0, .int 0])), (q1, .inr (7, [.int 0, .ref (u4 0)])), ((u4 0), .inl (G 0, 320, .inl (fun _ => 0))), (q5, .inr (9, [.int 0, .int 0, .int 0, .null, .null, .null, .null, .null, .null]))] := hD
  refine W.widen (k := 3) (n := 331) (by omega) (by omega) ?_
  refine lv_dup hx hb dX5_init_19 rfl ?_
  have hPc := hP.sub (ws' := [(q5, .inr (9, [.int 0, .int 0, .int 0, .null, .null, .null, .null, .null, .null]))]) [3] rfl
  have hDc := hD.sub (ws' := [(q5, .inr (9, [.int 0, .int 0, .int 0, .null, .null, .null, .null, .null, .null]))]) [3] (by decide) rfl
  have hFc := va_free (wc := [(q5, .inr (9, [.int 0, .int 0, .int 0, .null, .null, .null, .null, .null, .null]))]) hD hS hA [3] rfl
  refine va_callv (va_runIN (As := []) (rest := [.ref q5, .ref h0]) ⟨hx, hb, hml, hown, hg⟩ (c_X9_init l dC dI G _ q5 ) (kwIN hg hK mfX9_init wn_52 ⟨Nat.le_of_ble_eq_true rfl, Nat.le_of_ble_eq_true rfl⟩) (preSW hK hPc hDc) rfl rfl hl.1 rfl (lv_room (Nat.le_of_ble_eq_true rfl)) dX5_init_20 ⟨Nat.le_of_ble_eq_true rfl, Nat.le_of_ble_eq_true rfl⟩) hS (fun q _ h => hFc q h) hFc (fun ur6 t H1 locs ht hvm w7 hB hz1 hk1 hS => ?_)
  obtain ⟨u8, rfl⟩ : ∃ z, z = ur6 := ⟨_, rfl⟩
  obtain ⟨hP1, hD1⟩ := hB
  rw [ht] at hP1
  obtain ⟨hP, hD⟩ := va_join (wr := [(h0, .inr (5, [.ref q1, .null, .int 0, .int 0, .int 0, .int 0, .int 0, .int 0, .int 0, .int 0, .int 0, .int 0])), (q1, .inr (7, [.int 0, .ref (u4 0)])), ((u4 0), .inl (G 0, 320, .inl (fun _ => 0)))]) (w1 := [(q5, .inr (9, [.int 0, .int 0, .int 5, .ref (u8 0), .ref (u8 1), .ref (u8 2), .ref (u8 3), .ref (u8 4), .ref (u8 5)])), ((u8 0), .inl (G 0, 10, .inl (fun _ => 0))), ((u8 1), .inl (G 0, 10, .inl (fun _ => 0))), ((u8 2), .inl (G 0, 10, .inl (fun _ => 0))), ((u8 3), .inl (G 0, 6, .inl (fun _ => 0))), ((u8 4), .inl (G 0, 6, .inl (fun _ => 0))), ((u8 5), .inl (G 0, 6, .inl (fun _ => 0)))]) hP hD [3] [0, 1, 2] rfl rfl (by decide) (by decide) hk1 hFc hP1 hD1
  generalize H1 = H at hP hS ⊢
  have hP : va_P (dC, dI) vwCl [(h0, .inr (5, [.ref q1, .null, .int 0, .int 0, .int 0, .int 0, .int 0, .int 0, .int 0, .int 0, .int 0, .int 0])), (q1, .inr (7, [.int 0, .ref (u4 0)])), ((u4 0), .inl (G 0, 320, .inl (fun _ => 0))), (q5, .inr (9, [.int 0, .int 0, .int 5, .ref (u8 0), .ref (u8 1), .ref (u8 2), .ref (u8 3), .ref (u8 4), .ref (u8 5)])), ((u8 0), .inl (G 0, 10, .inl (fun _ => 0))), ((u8 1), .inl (G 0, 10, .inl (fun _ => 0))), ((u8 2), .inl (G 0, 10, .inl (fun _ => 0))), ((u8 3), .inl (G 0, 6, .inl (fun _ => 0))), ((u8 4), .inl (G 0, 6, .inl (fun _ => 0))), ((u8 5), .inl (G 0, 6, .inl (fun _ => 0)))] H := hP
  have hD : va_D A [(h0, .inr (5, [.ref q1, .null, .int 0, .int 0, .int 0, .int 0, .int 0, .int 0, .int 0, .int 0, .int 0, .int 0])), (q1, .inr (7, [.int 0, .ref (u4 0)])), ((u4 0), .inl (G 0, 320, .inl (fun _ => 0))), (q5, .inr (9, [.int 0, .int 0, .int 5, .ref (u8 0), .ref (u8 1), .ref (u8 2), .ref (u8 3), .ref (u8 4), .ref (u8 5)])), ((u8 0), .inl (G 0, 10, .inl (fun _ => 0))), ((u8 1), .inl (G 0, 10, .inl (fun _ => 0))), ((u8 2), .inl (G 0, 10, .inl (fun _ => 0))), ((u8 3), .inl (G 0, 6, .inl (fun _ => 0))), ((u8 4), .inl (G 0, 6, .inl (fun _ => 0))), ((u8 5), .inl (G 0, 6, .inl (fun _ => 0)))] := hD
  refine W.widen (k := 9) (n := 379) (by omega) (by omega) ?_
  refine va_putF (D := (dC, dI)) (ci := 5) (v := .ref q5) (ty := (.object "AsleepPass$Way")) (C := RX5) (T := TX5) (N := 12) hx hb hg inG5 tyX5 tyX5_ok nmX5 hown hK.1 hP hD hS 0 rfl rfl 1 (by decide) (hg _ wt_107) (fun _ h9 => h9) rfl hin rfl (by decide +kernel) rfl rfl (Nat.le_of_ble_eq_true rfl) dX5_init_23 (fun H locs hP hD hS => ?_)
  have hP : va_P (dC, dI) vwCl [(h0, .inr (5, [.ref q1, .ref q5, .int 0, .int 0, .int 0, .int 0, .int 0, .int 0, .int 0, .int 0, .int 0, .int 0])), (q1, .inr (7, [.int 0, .ref (u4 0)])), ((u4 0), .inl (G 0, 320, .inl (fun _ => 0))), (q5, .inr (9, [.int 0, .int 0, .int 5, .ref (u8 0), .ref (u8 1), .ref (u8 2), .ref (u8 3), .ref (u8 4), .ref (u8 5)])), ((u8 0), .inl (G 0, 10, .inl (fun _ => 0))), ((u8 1), .inl (G 0, 10, .inl (fun _ => 0))), ((u8 2), .inl (G 0, 10, .inl (fun _ => 0))), ((u8 3), .inl (G 0, 6, .inl (fun _ => 0))), ((u8 4), .inl (G 0, 6, .inl (fun _ => 0))), ((u8 5), .inl (G 0, 6, .inl (fun _ => 0)))] H := hP
  have hD : va_D A [(h0, .inr (5, [.ref q1, .ref q5, .int 0, .int 0, .int 0, .int 0, .int 0, .int 0, .int 0, .int 0, .int 0, .int 0])), (q1, .inr (7, [.int 0, .ref (u4 0)])), ((u4 0), .inl (G 0, 320, .inl (fun _ => 0))), (q5, .inr (9, [.int 0, .int 0, .int 5, .ref (u8 0), .ref (u8 1), .ref (u8 2), .ref (u8 3), .ref (u8 4), .ref (u8 5)])), ((u8 0), .inl (G 0, 10, .inl (fun _ => 0))), ((u8 1), .inl (G 0, 10, .inl (fun _ => 0))), ((u8 2), .inl (G 0, 10, .inl (fun _ => 0))), ((u8 3), .inl (G 0, 6, .inl (fun _ => 0))), ((u8 4), .inl (G 0, 6, .inl (fun _ => 0))), ((u8 5), .inl (G 0, 6, .inl (fun _ => 0)))] := hD
  have hP9 := hP.sub (ws' := [(h0, .inr (5, [.ref q1, .ref q5, .int 0, .int 0, .int 0, .int 0, .int 0, .int 0, .int 0, .int 0, .int 0, .int 0])), (q1, .inr (7, [.int 0, .ref (u4 0)])), ((u4 0), .inl (G 0, 320, .inl (fun _ => 0))), (q5, .inr (9, [.int 0, .int 0, .int 5, .ref (u8 0), .ref (u8 1), .ref (u8 2), .ref (u8 3), .ref (u8 4), .ref (u8 5)])), ((u8 0), .inl (G 0, 10, .inl (fun _ => 0))), ((u8 1), .inl (G 0, 10, .inl (fun _ => 0))), ((u8 2), .inl (G 0, 10, .inl (fun _ => 0))), ((u8 3), .inl (G 0, 6, .inl (fun _ => 0))), ((u8 4), .inl (G 0, 6, .inl (fun _ => 0))), ((u8 5), .inl (G 0, 6, .inl (fun _ => 0)))]) [0, 1, 2, 3, 4, 5, 6, 7, 8, 9] rfl
  have hD9 := hD.sub (ws' := [(h0, .inr (5, [.ref q1, .ref q5, .int 0, .int 0, .int 0, .int 0, .int 0, .int 0, .int 0, .int 0, .int 0, .int 0])), (q1, .inr (7, [.int 0, .ref (u4 0)])), ((u4 0), .inl (G 0, 320, .inl (fun _ => 0))), (q5, .inr (9, [.int 0, .int 0, .int 5, .ref (u8 0), .ref (u8 1), .ref (u8 2), .ref (u8 3), .ref (u8 4), .ref (u8 5)])), ((u8 0), .inl (G 0, 10, .inl (fun _ => 0))), ((u8 1), .inl (G 0, 10, .inl (fun _ => 0))), ((u8 2), .inl (G 0, 10, .inl (fun _ => 0))), ((u8 3), .inl (G 0, 6, .inl (fun _ => 0))), ((u8 4), .inl (G 0, 6, .inl (fun _ => 0))), ((u8 5), .inl (G 0, 6, .inl (fun _ => 0)))]) [0, 1, 2, 3, 4, 5, 6, 7, 8, 9] (by decide) rfl
  refine W.widen (k := 9) (n := 379) (by omega) (by omega) ?_
  exact W.vret hx hb hr (fun t ht hW => ⟨⟨(fun k => match k with | 0 => q1 | 1 => q5 | 2 => (u4 0) | 3 => (u8 0) | 4 => (u8 1) | 5 => (u8 2) | 6 => (u8 3) | 7 => (u8 4) | 8 => (u8 5) | _ => 0), rfl, trivial, ⟨by rw [ht]; exact hP9, hD9⟩⟩, hS.F ht⟩) hS.2.2 dX5_init_26

set_option maxHeartbeats 1000000 in
set_option maxRecDepth 100000 in
theorem c_X4_init (l : Launch) (dC : Nat → ClassId) (dI : Nat → Nat → Nat) (G : Nat → ClassId) (sz : Nat) (h0 : Nat)  : Met l yX4_init (Cond.code yX4_init cX4_init 1 none :: GT) ({ frames := 1, cells := 2, slots := 20, locals := 24 } : Room) (PcW [.ref h0] dC dI G [(h0, .inr (4, [.long 0, .null, .null]))] sz) (va_Qv (fun (u : (Nat → Nat)) => match u with | v => True) (fun (u : (Nat → Nat)) (t : State) => match u with | v => va_P (dC, dI) vwCl [(h0, .inr (4, [.long 1, .ref (v 0), .ref (v 1)])), ((v 0), .inl (G 1, 10, .inr (.inl (fun _ => 0)))), ((v 1), .inl (G 1, 10, .inr (.inl (fun _ => 0))))] t.heap ∧ va_D (va_A [(h0, .inr (4, [.long 0, .null, .null]))] sz) [(h0, .inr (4, [.long 1, .ref (v 0), .ref (v 1)])), ((v 0), .inl (G 1, 10, .inr (.inl (fun _ => 0)))), ((v 1), .inl (G 1, 10, .inr (.inl (fun _ => 0))))]) (va_A [(h0, .inr (4, [.long 0, .null, .null]))] sz)) 2 20 (va_A [(h0, .inr (4, [.long 0, .null, .null]))] sz) := by
  refine Met.ofW (cc := cX4_init) (maxL := 1) (ret := none) (by decide) rfl ?_
  intro p e s m args below meth c s₁ Bd hml hv
  obtain ⟨rfl, hsz, hP, hK, hD0⟩ := hv
  have hx := Bd.exec
  have hb := Bd.bytes
  have hr := Bd.returns
  have hg : ∀ w ∈ GT, w.before ([.ref h0] : List Value).toArray s = true := fun w h => atoms_spec (ws := Cond.code yX4_init cX4_init 1 none :: GT) Bd.pre w (List.mem_cons_of_mem _ h)
  have hown : s.vm.findClass RX4 = some m.cls := findClass_of_methodNamed Bd.named
  have hlocks := Bd.notSynchronized
  have hin : meth.name = "<init>" := (name_of_methodNamed Bd.named Bd.method).1
  subst hsz
  have hD := hD0.self (sz := s.heap.size)
  generalize hAe : va_A [(h0, .inr (4, [.long 0, .null, .null]))] s.heap.size = A at hD ⊢
  have hA : ∀ q : Nat, s.heap.size ≤ q → A q := fun q h => by rw [← hAe]; exact Or.inr h
  have hS : va_S A s.heap s.heap [] := va_S.rf
  have hl := lv_entry ([.ref h0]) (n := 1) (Nat.le_of_ble_eq_true rfl)
  rw [lg_entry_eq]
  generalize (lg_sl ([.ref h0]) ++ List.replicate (1 - (lg_sl ([.ref h0])).length) Slot.unset).toArray = ls at hl ⊢
  have hl : lv_has ls 1 [(0, .ref h0)] := hl
  refine lv_aload_n hx hb dX4_init_0 rfl (lv_at hl 0 rfl) ?_
  refine W.objInit hx hb hown (hg _ wt_155) (hg _ wt_26) (hg _ wt_27) rfl (by rw [hml]; exact hl.1) rfl dX4_init_1 (Nat.le_of_ble_eq_true rfl) (Nat.le_of_ble_eq_true rfl) ?_
  refine W.eq (g2 := F0 m 4 ls []) rfl ?_
  refine lv_aload_n hx hb dX4_init_4 rfl (lv_at hl 0 rfl) ?_
  refine lv_lconst (v := 1) hx hb dX4_init_5 (by decide) ?_
  refine va_put (D := (dC, dI)) (ci := 4) (v := .long 1) (ty := .long) (C := RX4) (T := TX4) (N := 3) hx hb hg inG4 tyX4 tyX4_ok nmX4 hown hK.1 hP hD hS 0 rfl rfl 0 (by decide) (hg _ wt_156) (fun _ h9 => h9) rfl (by decide +kernel) rfl rfl (Nat.le_of_ble_eq_true rfl) dX4_init_6 (fun H locs hP hD hS => ?_)
  have hP : va_P (dC, dI) vwCl [(h0, .inr (4, [.long 1, .null, .null]))] H := hP
  have hD : va_D A [(h0, .inr (4, [.long 1, .null, .null]))] := hD
  refine lv_aload_n hx hb dX4_init_9 rfl (lv_at hl 0 rfl) ?_
  refine lv_bipush (v := 10) hx hb dX4_init_10 (by decide) ?_
  refine va_newa (atype := .long) (N' := 10) (a0 := (10, .inr (.inl (fun _ => 0)))) hx hb (hg _ wt_169) rfl hK.1 hP hD hS hA (fun _ => rfl) (by decide) (by decide) (by decide) (Nat.le_of_ble_eq_true rfl) (Nat.le_of_ble_eq_true rfl) dX4_init_12 (fun q1 cA H hK9 hP hD hS => ?_)
  obtain rfl := uniA hK9 1 rfl
  have hP : va_P (dC, dI) vwCl [(h0, .inr (4, [.long 1, .null, .null])), (q1, .inl (G 1, 10, .inr (.inl (fun _ => 0))))] H := hP
  have hD : va_D A [(h0, .inr (4, [.long 1, .null, .null])), (q1, .inl (G 1, 10, .inr (.inl (fun _ => 0))))] := hD
  refine W.widen (k := 1) (n := 10) (by omega) (by omega) ?_
  refine va_putF (D := (dC, dI)) (ci := 4) (v := .ref q1) (ty := (.array .long)) (C := RX4) (T := TX4) (N := 3) hx hb hg inG4 tyX4 tyX4_ok nmX4 hown hK.1 hP hD hS 0 rfl rfl 1 (by decide) (hg _ wt_158) (fun _ h9 => h9) rfl hin rfl (by decide +kernel) rfl rfl (Nat.le_of_ble_eq_true rfl) dX4_init_14 (fun H locs hP hD hS => ?_)
  have hP : va_P (dC, dI) vwCl [(h0, .inr (4, [.long 1, .ref q1, .null])), (q1, .inl (G 1, 10, .inr (.inl (fun _ => 0))))] H := hP
  have hD : va_D A [(h0, .inr (4, [.long 1, .ref q1, .null])), (q1, .inl (G 1, 10, .inr (.inl (fun _ => 0))))] := hD
  refine lv_aload_n hx hb dX4_init_17 rfl (lv_at hl 0 rfl) ?_
  refine lv_bipush (v := 10) hx hb dX4_init_18 (by decide) ?_
  refine va_newa (atype := .long) (N' := 10) (a0 := (10, .inr (.inl (fun _ => 0)))) hx hb (hg _ wt_169) rfl hK.1 hP hD hS hA (fun _ => rfl) (by decide) (by decide) (by decide) (Nat.le_of_ble_eq_true rfl) (Nat.le_of_ble_eq_true rfl) dX4_init_20 (fun q2 cA H hK9 hP hD hS => ?_)
  obtain rfl := uniA hK9 1 rfl
  have hP : va_P (dC, dI) vwCl [(h0, .inr (4, [.long 1, .ref q1, .null])), (q1, .inl (G 1, 10, .inr (.inl (fun _ => 0)))), (q2, .inl (G 1, 10, .inr (.inl (fun _ => 0))))] H := hP
  have hD : va_D A [(h0, .inr (4, [.long 1, .ref q1, .null])), (q1, .inl (G 1, 10, .inr (.inl (fun _ => 0)))), (q2, .inl (G 1, 10, .inr (.inl (fun _ => 0))))] := hD
  refine W.widen (k := 2) (n := 20) (by omega) (by omega) ?_
  refine va_putF (D := (dC, dI)) (ci := 4) (v := .ref q2) (ty := (.array .long)) (C := RX4) (T := TX4) (N := 3) hx hb hg inG4 tyX4 tyX4_ok nmX4 hown hK.1 hP hD hS 0 rfl rfl 2 (by decide) (hg _ wt_160) (fun _ h9 => h9) rfl hin rfl (by decide +kernel) rfl rfl (Nat.le_of_ble_eq_true rfl) dX4_init_22 (fun H locs hP hD hS => ?_)
  have hP : va_P (dC, dI) vwCl [(h0, .inr (4, [.long 1, .ref q1, .ref q2])), (q1, .inl (G 1, 10, .inr (.inl (fun _ => 0)))), (q2, .inl (G 1, 10, .inr (.inl (fun _ => 0))))] H := hP
  have hD : va_D A [(h0, .inr (4, [.long 1, .ref q1, .ref q2])), (q1, .inl (G 1, 10, .inr (.inl (fun _ => 0)))), (q2, .inl (G 1, 10, .inr (.inl (fun _ => 0))))] := hD
  have hP9 := hP.sub (ws' := [(h0, .inr (4, [.long 1, .ref q1, .ref q2])), (q1, .inl (G 1, 10, .inr (.inl (fun _ => 0)))), (q2, .inl (G 1, 10, .inr (.inl (fun _ => 0))))]) [0, 1, 2] rfl
  have hD9 := hD.sub (ws' := [(h0, .inr (4, [.long 1, .ref q1, .ref q2])), (q1, .inl (G 1, 10, .inr (.inl (fun _ => 0)))), (q2, .inl (G 1, 10, .inr (.inl (fun _ => 0))))]) [0, 1, 2] (by decide) rfl
  refine W.widen (k := 2) (n := 20) (by omega) (by omega) ?_
  exact W.vret hx hb hr (fun t ht hW => ⟨⟨(fun k => match k with | 0 => q1 | 1 => q2 | _ => 0), rfl, trivial, ⟨by rw [ht]; exact hP9, hD9⟩⟩, hS.F ht⟩) hS.2.2 dX4_init_25

set_option maxHeartbeats 1000000 in
set_option maxRecDepth 100000 in
theorem c_X2_init (l : Launch) (dC : Nat → ClassId) (dI : Nat → Nat → Nat) (G : Nat → ClassId) (sz : Nat) (h0 : Nat)  : Met l yX2_init (Cond.code yX2_init cX2_init 1 none :: GT) ({ frames := 1, cells := 4, slots := 32, locals := 24 } : Room) (PcW [.ref h0] dC dI G [(h0, .inr (2, [.int 0, .null, .null, .null, .null]))] sz) (va_Qv (fun (u : (Nat → Nat)) => match u with | v => True) (fun (u : (Nat → Nat)) (t : State) => match u with | v => va_P (dC, dI) vwCl [(h0, .inr (2, [.int 0, .ref (v 0), .ref (v 1), .ref (v 2), .ref (v 3)])), ((v 0), .inl (G 0, 8, .inl (fun _ => 0))), ((v 1), .inl (G 0, 8, .inl (fun _ => 0))), ((v 2), .inl (G 0, 8, .inl (fun _ => 0))), ((v 3), .inl (G 0, 8, .inl (fun _ => 0)))] t.heap ∧ va_D (va_A [(h0, .inr (2, [.int 0, .null, .null, .null, .null]))] sz) [(h0, .inr (2, [.int 0, .ref (v 0), .ref (v 1), .ref (v 2), .ref (v 3)])), ((v 0), .inl (G 0, 8, .inl (fun _ => 0))), ((v 1), .inl (G 0, 8, .inl (fun _ => 0))), ((v 2), .inl (G 0, 8, .inl (fun _ => 0))), ((v 3), .inl (G 0, 8, .inl (fun _ => 0)))]) (va_A [(h0, .inr (2, [.int 0, .null, .null, .null, .null]))] sz)) 4 32 (va_A [(h0, .inr (2, [.int 0, .null, .null, .null, .null]))] sz) := by
  refine Met.ofW (cc := cX2_init) (maxL := 1) (ret := none) (by decide) rfl ?_
  intro p e s m args below meth c s₁ Bd hml hv
  obtain ⟨rfl, hsz, hP, hK, hD0⟩ := hv
  have hx := Bd.exec
  have hb := Bd.bytes
  have hr := Bd.returns
  have hg : ∀ w ∈ GT, w.before ([.ref h0] : List Value).toArray s = true := fun w h => atoms_spec (ws := Cond.code yX2_init cX2_init 1 none :: GT) Bd.pre w (List.mem_cons_of_mem _ h)
  have hown : s.vm.findClass RX2 = some m.cls := findClass_of_methodNamed Bd.named
  have hlocks := Bd.notSynchronized
  have hin : meth.name = "<init>" := (name_of_methodNamed Bd.named Bd.method).1
  subst hsz
  have hD := hD0.self (sz := s.heap.size)
  generalize hAe : va_A [(h0, .inr (2, [.int 0, .null, .null, .null, .null]))] s.heap.size = A at hD ⊢
  have hA : ∀ q : Nat, s.heap.size ≤ q → A q := fun q h => by rw [← hAe]; exact Or.inr h
  have hS : va_S A s.heap s.heap [] := va_S.rf
  have hl := lv_entry ([.ref h0]) (n := 1) (Nat.le_of_ble_eq_true rfl)
  rw [lg_entry_eq]
  generalize (lg_sl ([.ref h0]) ++ List.replicate (1 - (lg_sl ([.ref h0])).length) Slot.unset).toArray = ls at hl ⊢
  have hl : lv_has ls 1 [(0, .ref h0)] := hl
  refine lv_aload_n hx hb dX2_init_0 rfl (lv_at hl 0 rfl) ?_
  refine W.objInit hx hb hown (hg _ wt_216) (hg _ wt_26) (hg _ wt_27) rfl (by rw [hml]; exact hl.1) rfl dX2_init_1 (Nat.le_of_ble_eq_true rfl) (Nat.le_of_ble_eq_true rfl) ?_
  refine W.eq (g2 := F0 m 4 ls []) rfl ?_
  refine lv_aload_n hx hb dX2_init_4 rfl (lv_at hl 0 rfl) ?_
  refine lv_bipush (v := 8) hx hb dX2_init_5 (by decide) ?_
  refine va_newa (atype := .int) (N' := 8) (a0 := (8, .inl (fun _ => 0))) hx hb (hg _ wt_49) rfl hK.1 hP hD hS hA (fun _ => rfl) (by decide) (by decide) (by decide) (Nat.le_of_ble_eq_true rfl) (Nat.le_of_ble_eq_true rfl) dX2_init_7 (fun q1 cA H hK9 hP hD hS => ?_)
  obtain rfl := uniA hK9 0 rfl
  have hP : va_P (dC, dI) vwCl [(h0, .inr (2, [.int 0, .null, .null, .null, .null])), (q1, .inl (G 0, 8, .inl (fun _ => 0)))] H := hP
  have hD : va_D A [(h0, .inr (2, [.int 0, .null, .null, .null, .null])), (q1, .inl (G 0, 8, .inl (fun _ => 0)))] := hD
  refine W.widen (k := 1) (n := 8) (by omega) (by omega) ?_
  refine va_putF (D := (dC, dI)) (ci := 2) (v := .ref q1) (ty := (.array .int)) (C := RX2) (T := TX2) (N := 5) hx hb hg inG2 tyX2 tyX2_ok nmX2 hown hK.1 hP hD hS 0 rfl rfl 1 (by decide) (hg _ wt_219) (fun _ h9 => h9) rfl hin rfl (by decide +kernel) rfl rfl (Nat.le_of_ble_eq_true rfl) dX2_init_9 (fun H locs hP hD hS => ?_)
  have hP : va_P (dC, dI) vwCl [(h0, .inr (2, [.int 0, .ref q1, .null, .null, .null])), (q1, .inl (G 0, 8, .inl (fun _ => 0)))] H := hP
  have hD : va_D A [(h0, .inr (2, [.int 0, .ref q1, .null, .null, .null])), (q1, .inl (G 0, 8, .inl (fun _ => 0)))] := hD
  refine lv_aload_n hx hb dX2_init_12 rfl (lv_at hl 0 rfl) ?_
  refine lv_bipush (v := 8) hx hb dX2_init_13 (by decide) ?_
  refine va_newa (atype := .int) (N' := 8) (a0 := (8, .inl (fun _ => 0))) hx hb (hg _ wt_49) rfl hK.1 hP hD hS hA (fun _ => rfl) (by decide) (by decide) (by decide) (Nat.le_of_ble_eq_true rfl) (Nat.le_of_ble_eq_true rfl) dX2_init_15 (fun q2 cA H hK9 hP hD hS => ?_)
  obtain rfl := uniA hK9 0 rfl
  have hP : va_P (dC, dI) vwCl [(h0, .inr (2, [.int 0, .ref q1, .null, .null, .null])), (q1, .inl (G 0, 8, .inl (fun _ => 0))), (q2, .inl (G 0, 8, .inl (fun _ => 0)))] H := hP
  have hD : va_D A [(h0, .inr (2, [.int 0, .ref q1, .null, .null, .null])), (q1, .inl (G 0, 8, .inl (fun _ => 0))), (q2, .inl (G 0, 8, .inl (fun _ => 0)))] := hD
  refine W.widen (k := 2) (n := 16) (by omega) (by omega) ?_
  refine va_putF (D := (dC, dI)) (ci := 2) (v := .ref q2) (ty := (.array .int)) (C := RX2) (T := TX2) (N := 5) hx hb hg inG2 tyX2 tyX2_ok nmX2 hown hK.1 hP hD hS 0 rfl rfl 2 (by decide) (hg _ wt_220) (fun _ h9 => h9) rfl hin rfl (by decide +kernel) rfl rfl (Nat.le_of_ble_eq_true rfl) dX2_init_17 (fun H locs hP hD hS => ?_)
  have hP : va_P (dC, dI) vwCl [(h0, .inr (2, [.int 0, .ref q1, .ref q2, .null, .null])), (q1, .inl (G 0, 8, .inl (fun _ => 0))), (q2, .inl (G 0, 8, .inl (fun _ => 0)))] H := hP
  have hD : va_D A [(h0, .inr (2, [.int 0, .ref q1, .ref q2, .null, .null])), (q1, .inl (G 0, 8, .inl (fun _ => 0))), (q2, .inl (G 0, 8, .inl (fun _ => 0)))] := hD
  refine lv_aload_n hx hb dX2_init_20 rfl (lv_at hl 0 rfl) ?_
  refine lv_bipush (v := 8) hx hb dX2_init_21 (by decide) ?_
  refine va_newa (atype := .int) (N' := 8) (a0 := (8, .inl (fun _ => 0))) hx hb (hg _ wt_49) rfl hK.1 hP hD hS hA (fun _ => rfl) (by decide) (by decide) (by decide) (Nat.le_of_ble_eq_true rfl) (Nat.le_of_ble_eq_true rfl) dX2_init_23 (fun q3 cA H hK9 hP hD hS => ?_)
  obtain rfl := uniA hK9 0 rfl
  have hP : va_P (dC, dI) vwCl [(h0, .inr (2, [.int 0, .ref q1, .ref q2, .null, .null])), (q1, .inl (G 0, 8, .inl (fun _ => 0))), (q2, .inl (G 0, 8, .inl (fun _ => 0))), (q3, .inl (G 0, 8, .inl (fun _ => 0)))] H := hP
  have hD : va_D A [(h0, .inr (2, [.int 0, .ref q1, .ref q2, .null, .null])), (q1, .inl (G 0, 8, .inl (fun _ => 0))), (q2, .inl (G 0, 8, .inl (fun _ => 0))), (q3, .inl (G 0, 8, .inl (fun _ => 0)))] := hD
  refine W.widen (k := 3) (n := 24) (by omega) (by omega) ?_
  refine va_putF (D := (dC, dI)) (ci := 2) (v := .ref q3) (ty := (.array .int)) (C := RX2) (T := TX2) (N := 5) hx hb hg inG2 tyX2 tyX2_ok nmX2 hown hK.1 hP hD hS 0 rfl rfl 3 (by decide) (hg _ wt_221) (fun _ h9 => h9) rfl hin rfl (by decide +kernel) rfl rfl (Nat.le_of_ble_eq_true rfl) dX2_init_25 (fun H locs hP hD hS => ?_)
  have hP : va_P (dC, dI) vwCl [(h0, .inr (2, [.int 0, .ref q1, .ref q2, .ref q3, .null])), (q1, .inl (G 0, 8, .inl (fun _ => 0))), (q2, .inl (G 0, 8, .inl (fun _ => 0))), (q3, .inl (G 0, 8, .inl (fun _ => 0)))] H := hP
  have hD : va_D A [(h0, .inr (2, [.int 0, .ref q1, .ref q2, .ref q3, .null])), (q1, .inl (G 0, 8, .inl (fun _ => 0))), (q2, .inl (G 0, 8, .inl (fun _ => 0))), (q3, .inl (G 0, 8, .inl (fun _ => 0)))] := hD
  refine lv_aload_n hx hb dX2_init_28 rfl (lv_at hl 0 rfl) ?_
  refine lv_bipush (v := 8) hx hb dX2_init_29 (by decide) ?_
  refine va_newa (atype := .int) (N' := 8) (a0 := (8, .inl (fun _ => 0))) hx hb (hg _ wt_49) rfl hK.1 hP hD hS hA (fun _ => rfl) (by decide) (by decide) (by decide) (Nat.le_of_ble_eq_true rfl) (Nat.le_of_ble_eq_true rfl) dX2_init_31 (fun q4 cA H hK9 hP hD hS => ?_)
  obtain rfl := uniA hK9 0 rfl
  have hP : va_P (dC, dI) vwCl [(h0, .inr (2, [.int 0, .ref q1, .ref q2, .ref q3, .null])), (q1, .inl (G 0, 8, .inl (fun _ => 0))), (q2, .inl (G 0, 8, .inl (fun _ => 0))), (q3, .inl (G 0, 8, .inl (fun _ => 0))), (q4, .inl (G 0, 8, .inl (fun _ => 0)))] H := hP
  have hD : va_D A [(h0, .inr (2, [.int 0, .ref q1, .ref q2, .ref q3, .null])), (q1, .inl (G 0, 8, .inl (fun _ => 0))), (q2, .inl (G 0, 8, .inl (fun _ => 0))), (q3, .inl (G 0, 8, .inl (fun _ => 0))), (q4, .inl (G 0, 8, .inl (fun _ => 0)))] := hD
  refine W.widen (k := 4) (n := 32) (by omega) (by omega) ?_
  refine va_putF (D := (dC, dI)) (ci := 2) (v := .ref q4) (ty := (.array .int)) (C := RX2) (T := TX2) (N := 5) hx hb hg inG2 tyX2 tyX2_ok nmX2 hown hK.1 hP hD hS 0 rfl rfl 4 (by decide) (hg _ wt_222) (fun _ h9 => h9) rfl hin rfl (by decide +kernel) rfl rfl (Nat.le_of_ble_eq_true rfl) dX2_init_33 (fun H locs hP hD hS => ?_)
  have hP : va_P (dC, dI) vwCl [(h0, .inr (2, [.int 0, .ref q1, .ref q2, .ref q3, .ref q4])), (q1, .inl (G 0, 8, .inl (fun _ => 0))), (q2, .inl (G 0, 8, .inl (fun _ => 0))), (q3, .inl (G 0, 8, .inl (fun _ => 0))), (q4, .inl (G 0, 8, .inl (fun _ => 0)))] H := hP
  have hD : va_D A [(h0, .inr (2, [.int 0, .ref q1, .ref q2, .ref q3, .ref q4])), (q1, .inl (G 0, 8, .inl (fun _ => 0))), (q2, .inl (G 0, 8, .inl (fun _ => 0))), (q3, .inl (G 0, 8, .inl (fun _ => 0))), (q4, .inl (G 0, 8, .inl (fun _ => 0)))] := hD
  have hP9 := hP.sub (ws' := [(h0, .inr (2, [.int 0, .ref q1, .ref q2, .ref q3, .ref q4])), (q1, .inl (G 0, 8, .inl (fun _ => 0))), (q2, .inl (G 0, 8, .inl (fun _ => 0))), (q3, .inl (G 0, 8, .inl (fun _ => 0))), (q4, .inl (G 0, 8, .inl (fun _ => 0)))]) [0, 1, 2, 3, 4] rfl
  have hD9 := hD.sub (ws' := [(h0, .inr (2, [.int 0, .ref q1, .ref q2, .ref q3, .ref q4])), (q1, .inl (G 0, 8, .inl (fun _ => 0))), (q2, .inl (G 0, 8, .inl (fun _ => 0))), (q3, .inl (G 0, 8, .inl (fun _ => 0))), (q4, .inl (G 0, 8, .inl (fun _ => 0)))]) [0, 1, 2, 3, 4] (by decide) rfl
  refine W.widen (k := 4) (n := 32) (by omega) (by omega) ?_
  exact W.vret hx hb hr (fun t ht hW => ⟨⟨(fun k => match k with | 0 => q1 | 1 => q2 | 2 => q3 | 3 => q4 | _ => 0), rfl, trivial, ⟨by rw [ht]; exact hP9, hD9⟩⟩, hS.F ht⟩) hS.2.2 dX2_init_36

set_option maxHeartbeats 1000000 in
set_option maxRecDepth 100000 in
theorem c_X3_init (l : Launch) (dC : Nat → ClassId) (dI : Nat → Nat → Nat) (G : Nat → ClassId) (sz : Nat) (h0 : Nat)  : Met l yX3_init (Cond.code yX3_init cX3_init 1 none :: GT) ({ frames := 1, cells := 2, slots := 12, locals := 24 } : Room) (PcW [.ref h0] dC dI G [(h0, .inr (3, [.int 0, .null, .null]))] sz) (va_Qv (fun (u : (Nat → Nat)) => match u with | v => True) (fun (u : (Nat → Nat)) (t : State) => match u with | v => va_P (dC, dI) vwCl [(h0, .inr (3, [.int 0, .ref (v 0), .ref (v 1)])), ((v 0), .inl (G 0, 6, .inl (fun _ => 0))), ((v 1), .inl (G 0, 6, .inl (fun _ => 0)))] t.heap ∧ va_D (va_A [(h0, .inr (3, [.int 0, .null, .null]))] sz) [(h0, .inr (3, [.int 0, .ref (v 0), .ref (v 1)])), ((v 0), .inl (G 0, 6, .inl (fun _ => 0))), ((v 1), .inl (G 0, 6, .inl (fun _ => 0)))]) (va_A [(h0, .inr (3, [.int 0, .null, .null]))] sz)) 2 12 (va_A [(h0, .inr (3, [.int 0, .null, .null]))] sz) := by
  refine Met.ofW (cc := cX3_init) (maxL := 1) (ret := none) (by decide) rfl ?_
  intro p e s m args below meth c s₁ Bd hml hv
  obtain ⟨rfl, hsz, hP, hK, hD0⟩ := hv
  have hx := Bd.exec
  have hb := Bd.bytes
  have hr := Bd.returns
  have hg : ∀ w ∈ GT, w.before ([.ref h0] : List Value).toArray s = true := fun w h => atoms_spec (ws := Cond.code yX3_init cX3_init 1 none :: GT) Bd.pre w (List.mem_cons_of_mem _ h)
  have hown : s.vm.findClass RX3 = some m.cls := findClass_of_methodNamed Bd.named
  have hlocks := Bd.notSynchronized
  have hin : meth.name = "<init>" := (name_of_methodNamed Bd.named Bd.method).1
  subst hsz
  have hD := hD0.self (sz := s.heap.size)
  generalize hAe : va_A [(h0, .inr (3, [.int 0, .null, .null]))] s.heap.size = A at hD ⊢
  have hA : ∀ q : Nat, s.heap.size ≤ q → A q := fun q h => by rw [← hAe]; exact Or.inr h
  have hS : va_S A s.heap s.heap [] := va_S.rf
  have hl := lv_entry ([.ref h0]) (n := 1) (Nat.le_of_ble_eq_true rfl)
  rw [lg_entry_eq]
  generalize (lg_sl ([.ref h0]) ++ List.replicate (1 - (lg_sl ([.ref h0])).length) Slot.unset).toArray = ls at hl ⊢
  have hl : lv_has ls 1 [(0, .ref h0)] := hl
  refine lv_aload_n hx hb dX3_init_0 rfl (lv_at hl 0 rfl) ?_
  refine W.objInit hx hb hown (hg _ wt_239) (hg _ wt_26) (hg _ wt_27) rfl (by rw [hml]; exact hl.1) rfl dX3_init_1 (Nat.le_of_ble_eq_true rfl) (Nat.le_of_ble_eq_true rfl) ?_
  refine W.eq (g2 := F0 m 4 ls []) rfl ?_
  refine lv_aload_n hx hb dX3_init_4 rfl (lv_at hl 0 rfl) ?_
  refine lv_bipush (v := 6) hx hb dX3_init_5 (by decide) ?_
  refine va_newa (atype := .int) (N' := 6) (a0 := (6, .inl (fun _ => 0))) hx hb (hg _ wt_49) rfl hK.1 hP hD hS hA (fun _ => rfl) (by decide) (by decide) (by decide) (Nat.le_of_ble_eq_true rfl) (Nat.le_of_ble_eq_true rfl) dX3_init_7 (fun q1 cA H hK9 hP hD hS => ?_)
  obtain rfl := uniA hK9 0 rfl
  have hP : va_P (dC, dI) vwCl [(h0, .inr (3, [.int 0, .null, .null])), (q1, .inl (G 0, 6, .inl (fun _ => 0)))] H := hP
  have hD : va_D A [(h0, .inr (3, [.int 0, .null, .null])), (q1, .inl (G 0, 6, .inl (fun _ => 0)))] := hD
  refine W.widen (k := 1) (n := 6) (by omega) (by omega) ?_
  refine va_putF (D := (dC, dI)) (ci := 3) (v := .ref q1) (ty := (.array .int)) (C := RX3) (T := TX3) (N := 3) hx hb hg inG3 tyX3 tyX3_ok nmX3 hown hK.1 hP hD hS 0 rfl rfl 1 (by decide) (hg _ wt_242) (fun _ h9 => h9) rfl hin rfl (by decide +kernel) rfl rfl (Nat.le_of_ble_eq_true rfl) dX3_init_9 (fun H locs hP hD hS => ?_)
  have hP : va_P (dC, dI) vwCl [(h0, .inr (3, [.int 0, .ref q1, .null])), (q1, .inl (G 0, 6, .inl (fun _ => 0)))] H := hP
  have hD : va_D A [(h0, .inr (3, [.int 0, .ref q1, .null])), (q1, .inl (G 0, 6, .inl (fun _ => 0)))] := hD
  refine lv_aload_n hx hb dX3_init_12 rfl (lv_at hl 0 rfl) ?_
  refine lv_bipush (v := 6) hx hb dX3_init_13 (by decide) ?_
  refine va_newa (atype := .int) (N' := 6) (a0 := (6, .inl (fun _ => 0))) hx hb (hg _ wt_49) rfl hK.1 hP hD hS hA (fun _ => rfl) (by decide) (by decide) (by decide) (Nat.le_of_ble_eq_true rfl) (Nat.le_of_ble_eq_true rfl) dX3_init_15 (fun q2 cA H hK9 hP hD hS => ?_)
  obtain rfl := uniA hK9 0 rfl
  have hP : va_P (dC, dI) vwCl [(h0, .inr (3, [.int 0, .ref q1, .null])), (q1, .inl (G 0, 6, .inl (fun _ => 0))), (q2, .inl (G 0, 6, .inl (fun _ => 0)))] H := hP
  have hD : va_D A [(h0, .inr (3, [.int 0, .ref q1, .null])), (q1, .inl (G 0, 6, .inl (fun _ => 0))), (q2, .inl (G 0, 6, .inl (fun _ => 0)))] := hD
  refine W.widen (k := 2) (n := 12) (by omega) (by omega) ?_
  refine va_putF (D := (dC, dI)) (ci := 3) (v := .ref q2) (ty := (.array .int)) (C := RX3) (T := TX3) (N := 3) hx hb hg inG3 tyX3 tyX3_ok nmX3 hown hK.1 hP hD hS 0 rfl rfl 2 (by decide) (hg _ wt_243) (fun _ h9 => h9) rfl hin rfl (by decide +kernel) rfl rfl (Nat.le_of_ble_eq_true rfl) dX3_init_17 (fun H locs hP hD hS => ?_)
  have hP : va_P (dC, dI) vwCl [(h0, .inr (3, [.int 0, .ref q1, .ref q2])), (q1, .inl (G 0, 6, .inl (fun _ => 0))), (q2, .inl (G 0, 6, .inl (fun _ => 0)))] H := hP
  have hD : va_D A [(h0, .inr (3, [.int 0, .ref q1, .ref q2])), (q1, .inl (G 0, 6, .inl (fun _ => 0))), (q2, .inl (G 0, 6, .inl (fun _ => 0)))] := hD
  have hP9 := hP.sub (ws' := [(h0, .inr (3, [.int 0, .ref q1, .ref q2])), (q1, .inl (G 0, 6, .inl (fun _ => 0))), (q2, .inl (G 0, 6, .inl (fun _ => 0)))]) [0, 1, 2] rfl
  have hD9 := hD.sub (ws' := [(h0, .inr (3, [.int 0, .ref q1, .ref q2])), (q1, .inl (G 0, 6, .inl (fun _ => 0))), (q2, .inl (G 0, 6, .inl (fun _ => 0)))]) [0, 1, 2] (by decide) rfl
  refine W.widen (k := 2) (n := 12) (by omega) (by omega) ?_
  exact W.vret hx hb hr (fun t ht hW => ⟨⟨(fun k => match k with | 0 => q1 | 1 => q2 | _ => 0), rfl, trivial, ⟨by rw [ht]; exact hP9, hD9⟩⟩, hS.F ht⟩) hS.2.2 dX3_init_20

set_option maxHeartbeats 1000000 in
set_option maxRecDepth 100000 in
theorem c_X0_init (l : Launch) (dC : Nat → ClassId) (dI : Nat → Nat → Nat) (G : Nat → ClassId) (sz : Nat) (h0 : Nat)  : Met l yX0_init (Cond.code yX0_init cX0_init 1 none :: GT) ({ frames := 1, cells := 23, slots := 1491, locals := 24 } : Room) (PcW [.ref h0] dC dI G [(h0, .inr (0, [.long 0, .null, .null]))] sz) (va_Qv (fun (u : (Nat → Nat) × (Nat → Nat) × (Nat → Nat)) => match u with | (v, rw, rq) => True) (fun (u : (Nat → Nat) × (Nat → Nat) × (Nat → Nat)) (t : State) => match u with | (v, rw, rq) => va_P (dC, dI) vwCl [(h0, .inr (0, [.long 1, .ref (v 0), .ref (v 1)])), ((v 0), .inl (G 5, 11, .inr (.inr (.inr (.inr (fun ir => if ir < 11 then some (rw ir) else none)))))), ((v 1), .inl (G 4, 10, .inr (.inr (.inr (.inr (fun ir => if ir < 10 then some (rq ir) else none)))))), ((rw 0), .inl (G 1, 70, .inr (.inl (fun _ => 0)))), ((rw 1), .inl (G 1, 70, .inr (.inl (fun _ => 0)))), ((rw 2), .inl (G 1, 70, .inr (.inl (fun _ => 0)))), ((rw 3), .inl (G 1, 70, .inr (.inl (fun _ => 0)))), ((rw 4), .inl (G 1, 70, .inr (.inl (fun _ => 0)))), ((rw 5), .inl (G 1, 70, .inr (.inl (fun _ => 0)))), ((rw 6), .inl (G 1, 70, .inr (.inl (fun _ => 0)))), ((rw 7), .inl (G 1, 70, .inr (.inl (fun _ => 0)))), ((rw 8), .inl (G 1, 70, .inr (.inl (fun _ => 0)))), ((rw 9), .inl (G 1, 70, .inr (.inl (fun _ => 0)))), ((rw 10), .inl (G 1, 70, .inr (.inl (fun _ => 0)))), ((rq 0), .inl (G 0, 70, .inl (fun _ => 0))), ((rq 1), .inl (G 0, 70, .inl (fun _ => 0))), ((rq 2), .inl (G 0, 70, .inl (fun _ => 0))), ((rq 3), .inl (G 0, 70, .inl (fun _ => 0))), ((rq 4), .inl (G 0, 70, .inl (fun _ => 0))), ((rq 5), .inl (G 0, 70, .inl (fun _ => 0))), ((rq 6), .inl (G 0, 70, .inl (fun _ => 0))), ((rq 7), .inl (G 0, 70, .inl (fun _ => 0))), ((rq 8), .inl (G 0, 70, .inl (fun _ => 0))), ((rq 9), .inl (G 0, 70, .inl (fun _ => 0)))] t.heap ∧ va_D (va_A [(h0, .inr (0, [.long 0, .null, .null]))] sz) [(h0, .inr (0, [.long 1, .ref (v 0), .ref (v 1)])), ((v 0), .inl (G 5, 11, .inr (.inr (.inr (.inr (fun ir => if ir < 11 then some (rw ir) else none)))))), ((v 1), .inl (G 4, 10, .inr (.inr (.inr (.inr (fun ir => if ir < 10 then some (rq ir) else none)))))), ((rw 0), .inl (G 1, 70, .inr (.inl (fun _ => 0)))), ((rw 1), .inl (G 1, 70, .inr (.inl (fun _ => 0)))), ((rw 2), .inl (G 1, 70, .inr (.inl (fun _ => 0)))), ((rw 3), .inl (G 1, 70, .inr (.inl (fun _ => 0)))), ((rw 4), .inl (G 1, 70, .inr (.inl (fun _ => 0)))), ((rw 5), .inl (G 1, 70, .inr (.inl (fun _ => 0)))), ((rw 6), .inl (G 1, 70, .inr (.inl (fun _ => 0)))), ((rw 7), .inl (G 1, 70, .inr (.inl (fun _ => 0)))), ((rw 8), .inl (G 1, 70, .inr (.inl (fun _ => 0)))), ((rw 9), .inl (G 1, 70, .inr (.inl (fun _ => 0)))), ((rw 10), .inl (G 1, 70, .inr (.inl (fun _ => 0)))), ((rq 0), .inl (G 0, 70, .inl (fun _ => 0))), ((rq 1), .inl (G 0, 70, .inl (fun _ => 0))), ((rq 2), .inl (G 0, 70, .inl (fun _ => 0))), ((rq 3), .inl (G 0, 70, .inl (fun _ => 0))), ((rq 4), .inl (G 0, 70, .inl (fun _ => 0))), ((rq 5), .inl (G 0, 70, .inl (fun _ => 0))), ((rq 6), .inl (G 0, 70, .inl (fun _ => 0))), ((rq 7), .inl (G 0, 70, .inl (fun _ => 0))), ((rq 8), .inl (G 0, 70, .inl (fun _ => 0))), ((rq 9), .inl (G 0, 70, .inl (fun _ => 0)))]) (va_A [(h0, .inr (0, [.long 0, .null, .null]))] sz)) 23 1491 (va_A [(h0, .inr (0, [.long 0, .null, .null]))] sz) := by
  refine Met.ofW (cc := cX0_init) (maxL := 1) (ret := none) (by decide) rfl ?_
  intro p e s m args below meth c s₁ Bd hml hv
  obtain ⟨rfl, hsz, hP, hK, hD0⟩ := hv
  have hx := Bd.exec
  have hb := Bd.bytes
  have hr := Bd.returns
  have hg : ∀ w ∈ GT, w.before ([.ref h0] : List Value).toArray s = true := fun w h => atoms_spec (ws := Cond.code yX0_init cX0_init 1 none :: GT) Bd.pre w (List.mem_cons_of_mem _ h)
  have hown : s.vm.findClass RX0 = some m.cls := findClass_of_methodNamed Bd.named
  have hlocks := Bd.notSynchronized
  have hin : meth.name = "<init>" := (name_of_methodNamed Bd.named Bd.method).1
  subst hsz
  have hD := hD0.self (sz := s.heap.size)
  generalize hAe : va_A [(h0, .inr (0, [.long 0, .null, .null]))] s.heap.size = A at hD ⊢
  have hA : ∀ q : Nat, s.heap.size ≤ q → A q := fun q h => by rw [← hAe]; exact Or.inr h
  have hS : va_S A s.heap s.heap [] := va_S.rf
  have hl := lv_entry ([.ref h0]) (n := 1) (Nat.le_of_ble_eq_true rfl)
  rw [lg_entry_eq]
  generalize (lg_sl ([.ref h0]) ++ List.replicate (1 - (lg_sl ([.ref h0])).length) Slot.unset).toArray = ls at hl ⊢
  have hl : lv_has ls 1 [(0, .ref h0)] := hl
  refine lv_aload_n hx hb dX0_init_0 rfl (lv_at hl 0 rfl) ?_
  refine W.objInit hx hb hown (hg _ wt_175) (hg _ wt_26) (hg _ wt_27) rfl (by rw [hml]; exact hl.1) rfl dX0_init_1 (Nat.le_of_ble_eq_true rfl) (Nat.le_of_ble_eq_true rfl) ?_
  refine W.eq (g2 := F0 m 4 ls []) rfl ?_
  refine lv_aload_n hx hb dX0_init_4 rfl (lv_at hl 0 rfl) ?_
  refine lv_lconst (v := 1) hx hb dX0_init_5 (by decide) ?_
  refine va_put (D := (dC, dI)) (ci := 0) (v := .long 1) (ty := .long) (C := RX0) (T := TX0) (N := 3) hx hb hg inG0 tyX0 tyX0_ok nmX0 hown hK.1 hP hD hS 0 rfl rfl 0 (by decide) (hg _ wt_180) (fun _ h9 => h9) rfl (by decide +kernel) rfl rfl (Nat.le_of_ble_eq_true rfl) dX0_init_6 (fun H locs hP hD hS => ?_)
  have hP : va_P (dC, dI) vwCl [(h0, .inr (0, [.long 1, .null, .null]))] H := hP
  have hD : va_D A [(h0, .inr (0, [.long 1, .null, .null]))] := hD
  refine lv_aload_n hx hb dX0_init_9 rfl (lv_at hl 0 rfl) ?_
  refine lv_bipush (v := 11) hx hb dX0_init_10 (by decide) ?_
  refine lv_bipush (v := 70) hx hb dX0_init_12 (by decide) ?_
  refine va_mnL (N' := 11) (K' := 70) (ty := .long) (cy := G 1) (z := (70, .inr (.inl (fun _ => 0)))) hx hb hown (hg _ wt_176) (by decide +kernel) hK.2.2.2.2 (hg _ wt_169) (hK.1.2 1 _ rfl).2 hK.1 hP hD hS hA (by decide) (by decide) (by decide) (by decide) (by decide) (by decide) (by decide) (by decide) (by decide) (Nat.le_of_ble_eq_true rfl) (Nat.le_of_ble_eq_true rfl) (fun c => innL c 70) dX0_init_14 (fun q1 rr2 cA H hK9 hP hD hS => ?_)
  obtain rfl := uniA hK9 5 rfl
  have hP : va_P (dC, dI) vwCl [(h0, .inr (0, [.long 1, .null, .null])), (q1, .inl (G 5, 11, .inr (.inr (.inr (.inr (fun ir => if ir < 11 then some (rr2 ir) else none)))))), ((rr2 0), .inl (G 1, 70, .inr (.inl (fun _ => 0)))), ((rr2 1), .inl (G 1, 70, .inr (.inl (fun _ => 0)))), ((rr2 2), .inl (G 1, 70, .inr (.inl (fun _ => 0)))), ((rr2 3), .inl (G 1, 70, .inr (.inl (fun _ => 0)))), ((rr2 4), .inl (G 1, 70, .inr (.inl (fun _ => 0)))), ((rr2 5), .inl (G 1, 70, .inr (.inl (fun _ => 0)))), ((rr2 6), .inl (G 1, 70, .inr (.inl (fun _ => 0)))), ((rr2 7), .inl (G 1, 70, .inr (.inl (fun _ => 0)))), ((rr2 8), .inl (G 1, 70, .inr (.inl (fun _ => 0)))), ((rr2 9), .inl (G 1, 70, .inr (.inl (fun _ => 0)))), ((rr2 10), .inl (G 1, 70, .inr (.inl (fun _ => 0))))] H := hP
  have hD : va_D A [(h0, .inr (0, [.long 1, .null, .null])), (q1, .inl (G 5, 11, .inr (.inr (.inr (.inr (fun ir => if ir < 11 then some (rr2 ir) else none)))))), ((rr2 0), .inl (G 1, 70, .inr (.inl (fun _ => 0)))), ((rr2 1), .inl (G 1, 70, .inr (.inl (fun _ => 0)))), ((rr2 2), .inl (G 1, 70, .inr (.inl (fun _ => 0)))), ((rr2 3), .inl (G 1, 70, .inr (.inl (fun _ => 0)))), ((rr2 4), .inl (G 1, 70, .inr (.inl (fun _ => 0)))), ((rr2 5), .inl (G 1, 70, .inr (.inl (fun _ => 0)))), ((rr2 6), .inl (G 1, 70, .inr (.inl (fun _ => 0)))), ((rr2 7), .inl (G 1, 70, .inr (.inl (fun _ => 0)))), ((rr2 8), .inl (G 1, 70, .inr (.inl (fun _ => 0)))), ((rr2 9), .inl (G 1, 70, .inr (.inl (fun _ => 0)))), ((rr2 10), .inl (G 1, 70, .inr (.inl (fun _ => 0))))] := hD
  refine W.widen (k := 12) (n := 781) (by omega) (by omega) ?_
  refine va_putF (D := (dC, dI)) (ci := 0) (v := .ref q1) (ty := (.array (.array .long))) (C := RX0) (T := TX0) (N := 3) hx hb hg inG0 tyX0 tyX0_ok nmX0 hown hK.1 hP hD hS 0 rfl rfl 1 (by decide) (hg _ wt_182) (fun _ h9 => h9) rfl hin rfl (by decide +kernel) rfl rfl (Nat.le_of_ble_eq_true rfl) dX0_init_18 (fun H locs hP hD hS => ?_)
  have hP : va_P (dC, dI) vwCl [(h0, .inr (0, [.long 1, .ref q1, .null])), (q1, .inl (G 5, 11, .inr (.inr (.inr (.inr (fun ir => if ir < 11 then some (rr2 ir) else none)))))), ((rr2 0), .inl (G 1, 70, .inr (.inl (fun _ => 0)))), ((rr2 1), .inl (G 1, 70, .inr (.inl (fun _ => 0)))), ((rr2 2), .inl (G 1, 70, .inr (.inl (fun _ => 0)))), ((rr2 3), .inl (G 1, 70, .inr (.inl (fun _ => 0)))), ((rr2 4), .inl (G 1, 70, .inr (.inl (fun _ => 0)))), ((rr2 5), .inl (G 1, 70, .inr (.inl (fun _ => 0)))), ((rr2 6), .inl (G 1, 70, .inr (.inl (fun _ => 0)))), ((rr2 7), .inl (G 1, 70, .inr (.inl (fun _ => 0)))), ((rr2 8), .inl (G 1, 70, .inr (.inl (fun _ => 0)))), ((rr2 9), .inl (G 1, 70, .inr (.inl (fun _ => 0)))), ((rr2 10), .inl (G 1, 70, .inr (.inl (fun _ => 0))))] H := hP
  have hD : va_D A [(h0, .inr (0, [.long 1, .ref q1, .null])), (q1, .inl (G 5, 11, .inr (.inr (.inr (.inr (fun ir => if ir < 11 then some (rr2 ir) else none)))))), ((rr2 0), .inl (G 1, 70, .inr (.inl (fun _ => 0)))), ((rr2 1), .inl (G 1, 70, .inr (.inl (fun _ => 0)))), ((rr2 2), .inl (G 1, 70, .inr (.inl (fun _ => 0)))), ((rr2 3), .inl (G 1, 70, .inr (.inl (fun _ => 0)))), ((rr2 4), .inl (G 1, 70, .inr (.inl (fun _ => 0)))), ((rr2 5), .inl (G 1, 70, .inr (.inl (fun _ => 0)))), ((rr2 6), .inl (G 1, 70, .inr (.inl (fun _ => 0)))), ((rr2 7), .inl (G 1, 70, .inr (.inl (fun _ => 0)))), ((rr2 8), .inl (G 1, 70, .inr (.inl (fun _ => 0)))), ((rr2 9), .inl (G 1, 70, .inr (.inl (fun _ => 0)))), ((rr2 10), .inl (G 1, 70, .inr (.inl (fun _ => 0))))] := hD
  refine lv_aload_n hx hb dX0_init_21 rfl (lv_at hl 0 rfl) ?_
  refine lv_bipush (v := 10) hx hb dX0_init_22 (by decide) ?_
  refine lv_bipush (v := 70) hx hb dX0_init_24 (by decide) ?_
  refine va_mnL (N' := 10) (K' := 70) (ty := .int) (cy := G 0) (z := (70, .inl (fun _ => 0))) hx hb hown (hg _ wt_178) (by decide +kernel) hK.2.2.2.1 (hg _ wt_49) (hK.1.2 0 _ rfl).2 hK.1 hP hD hS hA (by decide) (by decide) (by decide) (by decide) (by decide) (by decide) (by decide) (by decide) (by decide) (Nat.le_of_ble_eq_true rfl) (Nat.le_of_ble_eq_true rfl) (fun c => innI c 70) dX0_init_26 (fun q3 rr4 cA H hK9 hP hD hS => ?_)
  obtain rfl := uniA hK9 4 rfl
  have hP : va_P (dC, dI) vwCl [(h0, .inr (0, [.long 1, .ref q1, .null])), (q1, .inl (G 5, 11, .inr (.inr (.inr (.inr (fun ir => if ir < 11 then some (rr2 ir) else none)))))), ((rr2 0), .inl (G 1, 70, .inr (.inl (fun _ => 0)))), ((rr2 1), .inl (G 1, 70, .inr (.inl (fun _ => 0)))), ((rr2 2), .inl (G 1, 70, .inr (.inl (fun _ => 0)))), ((rr2 3), .inl (G 1, 70, .inr (.inl (fun _ => 0)))), ((rr2 4), .inl (G 1, 70, .inr (.inl (fun _ => 0)))), ((rr2 5), .inl (G 1, 70, .inr (.inl (fun _ => 0)))), ((rr2 6), .inl (G 1, 70, .inr (.inl (fun _ => 0)))), ((rr2 7), .inl (G 1, 70, .inr (.inl (fun _ => 0)))), ((rr2 8), .inl (G 1, 70, .inr (.inl (fun _ => 0)))), ((rr2 9), .inl (G 1, 70, .inr (.inl (fun _ => 0)))), ((rr2 10), .inl (G 1, 70, .inr (.inl (fun _ => 0)))), (q3, .inl (G 4, 10, .inr (.inr (.inr (.inr (fun ir => if ir < 10 then some (rr4 ir) else none)))))), ((rr4 0), .inl (G 0, 70, .inl (fun _ => 0))), ((rr4 1), .inl (G 0, 70, .inl (fun _ => 0))), ((rr4 2), .inl (G 0, 70, .inl (fun _ => 0))), ((rr4 3), .inl (G 0, 70, .inl (fun _ => 0))), ((rr4 4), .inl (G 0, 70, .inl (fun _ => 0))), ((rr4 5), .inl (G 0, 70, .inl (fun _ => 0))), ((rr4 6), .inl (G 0, 70, .inl (fun _ => 0))), ((rr4 7), .inl (G 0, 70, .inl (fun _ => 0))), ((rr4 8), .inl (G 0, 70, .inl (fun _ => 0))), ((rr4 9), .inl (G 0, 70, .inl (fun _ => 0)))] H := hP
  have hD : va_D A [(h0, .inr (0, [.long 1, .ref q1, .null])), (q1, .inl (G 5, 11, .inr (.inr (.inr (.inr (fun ir => if ir < 11 then some (rr2 ir) else none)))))), ((rr2 0), .inl (G 1, 70, .inr (.inl (fun _ => 0)))), ((rr2 1), .inl (G 1, 70, .inr (.inl (fun _ => 0)))), ((rr2 2), .inl (G 1, 70, .inr (.inl (fun _ => 0)))), ((rr2 3), .inl (G 1, 70, .inr (.inl (fun _ => 0)))), ((rr2 4), .inl (G 1, 70, .inr (.inl (fun _ => 0)))), ((rr2 5), .inl (G 1, 70, .inr (.inl (fun _ => 0)))), ((rr2 6), .inl (G 1, 70, .inr (.inl (fun _ => 0)))), ((rr2 7), .inl (G 1, 70, .inr (.inl (fun _ => 0)))), ((rr2 8), .inl (G 1, 70, .inr (.inl (fun _ => 0)))), ((rr2 9), .inl (G 1, 70, .inr (.inl (fun _ => 0)))), ((rr2 10), .inl (G 1, 70, .inr (.inl (fun _ => 0)))), (q3, .inl (G 4, 10, .inr (.inr (.inr (.inr (fun ir => if ir < 10 then some (rr4 ir) else none)))))), ((rr4 0), .inl (G 0, 70, .inl (fun _ => 0))), ((rr4 1), .inl (G 0, 70, .inl (fun _ => 0))), ((rr4 2), .inl (G 0, 70, .inl (fun _ => 0))), ((rr4 3), .inl (G 0, 70, .inl (fun _ => 0))), ((rr4 4), .inl (G 0, 70, .inl (fun _ => 0))), ((rr4 5), .inl (G 0, 70, .inl (fun _ => 0))), ((rr4 6), .inl (G 0, 70, .inl (fun _ => 0))), ((rr4 7), .inl (G 0, 70, .inl (fun _ => 0))), ((rr4 8), .inl (G 0, 70, .inl (fun _ => 0))), ((rr4 9), .inl (G 0, 70, .inl (fun _ => 0)))] := hD
  refine W.widen (k := 23) (n := 1491) (by omega) (by omega) ?_
  refine va_putF (D := (dC, dI)) (ci := 0) (v := .ref q3) (ty := (.array (.array .int))) (C := RX0) (T := TX0) (N := 3) hx hb hg inG0 tyX0 tyX0_ok nmX0 hown hK.1 hP hD hS 0 rfl rfl 2 (by decide) (hg _ wt_183) (fun _ h9 => h9) rfl hin rfl (by decide +kernel) rfl rfl (Nat.le_of_ble_eq_true rfl) dX0_init_30 (fun H locs hP hD hS => ?_)
  have hP : va_P (dC, dI) vwCl [(h0, .inr (0, [.long 1, .ref q1, .ref q3])), (q1, .inl (G 5, 11, .inr (.inr (.inr (.inr (fun ir => if ir < 11 then some (rr2 ir) else none)))))), ((rr2 0), .inl (G 1, 70, .inr (.inl (fun _ => 0)))), ((rr2 1), .inl (G 1, 70, .inr (.inl (fun _ => 0)))), ((rr2 2), .inl (G 1, 70, .inr (.inl (fun _ => 0)))), ((rr2 3), .inl (G 1, 70, .inr (.inl (fun _ => 0)))), ((rr2 4), .inl (G 1, 70, .inr (.inl (fun _ => 0)))), ((rr2 5), .inl (G 1, 70, .inr (.inl (fun _ => 0)))), ((rr2 6), .inl (G 1, 70, .inr (.inl (fun _ => 0)))), ((rr2 7), .inl (G 1, 70, .inr (.inl (fun _ => 0)))), ((rr2 8), .inl (G 1, 70, .inr (.inl (fun _ => 0)))), ((rr2 9), .inl (G 1, 70, .inr (.inl (fun _ => 0)))), ((rr2 10), .inl (G 1, 70, .inr (.inl (fun _ => 0)))), (q3, .inl (G 4, 10, .inr (.inr (.inr (.inr (fun ir => if ir < 10 then some (rr4 ir) else none)))))), ((rr4 0), .inl (G 0, 70, .inl (fun _ => 0))), ((rr4 1), .inl (G 0, 70, .inl (fun _ => 0))), ((rr4 2), .inl (G 0, 70, .inl (fun _ => 0))), ((rr4 3), .inl (G 0, 70, .inl (fun _ => 0))), ((rr4 4), .inl (G 0, 70, .inl (fun _ => 0))), ((rr4 5), .inl (G 0, 70, .inl (fun _ => 0))), ((rr4 6), .inl (G 0, 70, .inl (fun _ => 0))), ((rr4 7), .inl (G 0, 70, .inl (fun _ => 0))), ((rr4 8), .inl (G 0, 70, .inl (fun _ => 0))), ((rr4 9), .inl (G 0, 70, .inl (fun _ => 0)))] H := hP
  have hD : va_D A [(h0, .inr (0, [.long 1, .ref q1, .ref q3])), (q1, .inl (G 5, 11, .inr (.inr (.inr (.inr (fun ir => if ir < 11 then some (rr2 ir) else none)))))), ((rr2 0), .inl (G 1, 70, .inr (.inl (fun _ => 0)))), ((rr2 1), .inl (G 1, 70, .inr (.inl (fun _ => 0)))), ((rr2 2), .inl (G 1, 70, .inr (.inl (fun _ => 0)))), ((rr2 3), .inl (G 1, 70, .inr (.inl (fun _ => 0)))), ((rr2 4), .inl (G 1, 70, .inr (.inl (fun _ => 0)))), ((rr2 5), .inl (G 1, 70, .inr (.inl (fun _ => 0)))), ((rr2 6), .inl (G 1, 70, .inr (.inl (fun _ => 0)))), ((rr2 7), .inl (G 1, 70, .inr (.inl (fun _ => 0)))), ((rr2 8), .inl (G 1, 70, .inr (.inl (fun _ => 0)))), ((rr2 9), .inl (G 1, 70, .inr (.inl (fun _ => 0)))), ((rr2 10), .inl (G 1, 70, .inr (.inl (fun _ => 0)))), (q3, .inl (G 4, 10, .inr (.inr (.inr (.inr (fun ir => if ir < 10 then some (rr4 ir) else none)))))), ((rr4 0), .inl (G 0, 70, .inl (fun _ => 0))), ((rr4 1), .inl (G 0, 70, .inl (fun _ => 0))), ((rr4 2), .inl (G 0, 70, .inl (fun _ => 0))), ((rr4 3), .inl (G 0, 70, .inl (fun _ => 0))), ((rr4 4), .inl (G 0, 70, .inl (fun _ => 0))), ((rr4 5), .inl (G 0, 70, .inl (fun _ => 0))), ((rr4 6), .inl (G 0, 70, .inl (fun _ => 0))), ((rr4 7), .inl (G 0, 70, .inl (fun _ => 0))), ((rr4 8), .inl (G 0, 70, .inl (fun _ => 0))), ((rr4 9), .inl (G 0, 70, .inl (fun _ => 0)))] := hD
  have hP9 := hP.sub (ws' := [(h0, .inr (0, [.long 1, .ref q1, .ref q3])), (q1, .inl (G 5, 11, .inr (.inr (.inr (.inr (fun ir => if ir < 11 then some (rr2 ir) else none)))))), (q3, .inl (G 4, 10, .inr (.inr (.inr (.inr (fun ir => if ir < 10 then some (rr4 ir) else none)))))), ((rr2 0), .inl (G 1, 70, .inr (.inl (fun _ => 0)))), ((rr2 1), .inl (G 1, 70, .inr (.inl (fun _ => 0)))), ((rr2 2), .inl (G 1, 70, .inr (.inl (fun _ => 0)))), ((rr2 3), .inl (G 1, 70, .inr (.inl (fun _ => 0)))), ((rr2 4), .inl (G 1, 70, .inr (.inl (fun _ => 0)))), ((rr2 5), .inl (G 1, 70, .inr (.inl (fun _ => 0)))), ((rr2 6), .inl (G 1, 70, .inr (.inl (fun _ => 0)))), ((rr2 7), .inl (G 1, 70, .inr (.inl (fun _ => 0)))), ((rr2 8), .inl (G 1, 70, .inr (.inl (fun _ => 0)))), ((rr2 9), .inl (G 1, 70, .inr (.inl (fun _ => 0)))), ((rr2 10), .inl (G 1, 70, .inr (.inl (fun _ => 0)))), ((rr4 0), .inl (G 0, 70, .inl (fun _ => 0))), ((rr4 1), .inl (G 0, 70, .inl (fun _ => 0))), ((rr4 2), .inl (G 0, 70, .inl (fun _ => 0))), ((rr4 3), .inl (G 0, 70, .inl (fun _ => 0))), ((rr4 4), .inl (G 0, 70, .inl (fun _ => 0))), ((rr4 5), .inl (G 0, 70, .inl (fun _ => 0))), ((rr4 6), .inl (G 0, 70, .inl (fun _ => 0))), ((rr4 7), .inl (G 0, 70, .inl (fun _ => 0))), ((rr4 8), .inl (G 0, 70, .inl (fun _ => 0))), ((rr4 9), .inl (G 0, 70, .inl (fun _ => 0)))]) [0, 1, 13, 2, 3, 4, 5, 6, 7, 8, 9, 10, 11, 12, 14, 15, 16, 17, 18, 19, 20, 21, 22, 23] rfl
  have hD9 := hD.sub (ws' := [(h0, .inr (0, [.long 1, .ref q1, .ref q3])), (q1, .inl (G 5, 11, .inr (.inr (.inr (.inr (fun ir => if ir < 11 then some (rr2 ir) else none)))))), (q3, .inl (G 4, 10, .inr (.inr (.inr (.inr (fun ir => if ir < 10 then some (rr4 ir) else none)))))), ((rr2 0), .inl (G 1, 70, .inr (.inl (fun _ => 0)))), ((rr2 1), .inl (G 1, 70, .inr (.inl (fun _ => 0)))), ((rr2 2), .inl (G 1, 70, .inr (.inl (fun _ => 0)))), ((rr2 3), .inl (G 1, 70, .inr (.inl (fun _ => 0)))), ((rr2 4), .inl (G 1, 70, .inr (.inl (fun _ => 0)))), ((rr2 5), .inl (G 1, 70, .inr (.inl (fun _ => 0)))), ((rr2 6), .inl (G 1, 70, .inr (.inl (fun _ => 0)))), ((rr2 7), .inl (G 1, 70, .inr (.inl (fun _ => 0)))), ((rr2 8), .inl (G 1, 70, .inr (.inl (fun _ => 0)))), ((rr2 9), .inl (G 1, 70, .inr (.inl (fun _ => 0)))), ((rr2 10), .inl (G 1, 70, .inr (.inl (fun _ => 0)))), ((rr4 0), .inl (G 0, 70, .inl (fun _ => 0))), ((rr4 1), .inl (G 0, 70, .inl (fun _ => 0))), ((rr4 2), .inl (G 0, 70, .inl (fun _ => 0))), ((rr4 3), .inl (G 0, 70, .inl (fun _ => 0))), ((rr4 4), .inl (G 0, 70, .inl (fun _ => 0))), ((rr4 5), .inl (G 0, 70, .inl (fun _ => 0))), ((rr4 6), .inl (G 0, 70, .inl (fun _ => 0))), ((rr4 7), .inl (G 0, 70, .inl (fun _ => 0))), ((rr4 8), .inl (G 0, 70, .inl (fun _ => 0))), ((rr4 9), .inl (G 0, 70, .inl (fun _ => 0)))]) [0, 1, 13, 2, 3, 4, 5, 6, 7, 8, 9, 10, 11, 12, 14, 15, 16, 17, 18, 19, 20, 21, 22, 23] (by decide) rfl
  refine W.widen (k := 23) (n := 1491) (by omega) (by omega) ?_
  exact W.vret hx hb hr (fun t ht hW => ⟨⟨((fun k => match k with | 0 => q1 | 1 => q3 | _ => 0), rr2, rr4), rfl, trivial, ⟨by rw [ht]; exact hP9, hD9⟩⟩, hS.F ht⟩) hS.2.2 dX0_init_33

set_option maxHeartbeats 1000000 in
set_option maxRecDepth 100000 in
theorem c_X8_init (l : Launch) (dC : Nat → ClassId) (dI : Nat → Nat → Nat) (G : Nat → ClassId) (sz : Nat) (h0 : Nat)  : Met l yX8_init (Cond.code yX8_init cX8_init 1 none :: GT) ({ frames := 1, cells := 24, slots := 242, locals := 24 } : Room) (PcW [.ref h0] dC dI G [(h0, .inr (8, [.int 0, .null, .null]))] sz) (va_Qv (fun (u : (Nat → Nat) × (Nat → Nat) × (Nat → Nat)) => match u with | (v, ri, ro) => True) (fun (u : (Nat → Nat) × (Nat → Nat) × (Nat → Nat)) (t : State) => match u with | (v, ri, ro) => va_P (dC, dI) vwCl [(h0, .inr (8, [.int 0, .ref (v 0), .ref (v 1)])), ((v 0), .inl (G 4, 11, .inr (.inr (.inr (.inr (fun ir => if ir < 11 then some (ri ir) else none)))))), ((v 1), .inl (G 4, 11, .inr (.inr (.inr (.inr (fun ir => if ir < 11 then some (ro ir) else none)))))), ((ri 0), .inl (G 0, 10, .inl (fun _ => 0))), ((ri 1), .inl (G 0, 10, .inl (fun _ => 0))), ((ri 2), .inl (G 0, 10, .inl (fun _ => 0))), ((ri 3), .inl (G 0, 10, .inl (fun _ => 0))), ((ri 4), .inl (G 0, 10, .inl (fun _ => 0))), ((ri 5), .inl (G 0, 10, .inl (fun _ => 0))), ((ri 6), .inl (G 0, 10, .inl (fun _ => 0))), ((ri 7), .inl (G 0, 10, .inl (fun _ => 0))), ((ri 8), .inl (G 0, 10, .inl (fun _ => 0))), ((ri 9), .inl (G 0, 10, .inl (fun _ => 0))), ((ri 10), .inl (G 0, 10, .inl (fun _ => 0))), ((ro 0), .inl (G 0, 10, .inl (fun _ => 0))), ((ro 1), .inl (G 0, 10, .inl (fun _ => 0))), ((ro 2), .inl (G 0, 10, .inl (fun _ => 0))), ((ro 3), .inl (G 0, 10, .inl (fun _ => 0))), ((ro 4), .inl (G 0, 10, .inl (fun _ => 0))), ((ro 5), .inl (G 0, 10, .inl (fun _ => 0))), ((ro 6), .inl (G 0, 10, .inl (fun _ => 0))), ((ro 7), .inl (G 0, 10, .inl (fun _ => 0))), ((ro 8), .inl (G 0, 10, .inl (fun _ => 0))), ((ro 9), .inl (G 0, 10, .inl (fun _ => 0))), ((ro 10), .inl (G 0, 10, .inl (fun _ => 0)))] t.heap ∧ va_D (va_A [(h0, .inr (8, [.int 0, .null, .null]))] sz) [(h0, .inr (8, [.int 0, .ref (v 0), .ref (v 1)])), ((v 0), .inl (G 4, 11, .inr (.inr (.inr (.inr (fun ir => if ir < 11 then some (ri ir) else none)))))), ((v 1), .inl (G 4, 11, .inr (.inr (.inr (.inr (fun ir => if ir < 11 then some (ro ir) else none)))))), ((ri 0), .inl (G 0, 10, .inl (fun _ => 0))), ((ri 1), .inl (G 0, 10, .inl (fun _ => 0))), ((ri 2), .inl (G 0, 10, .inl (fun _ => 0))), ((ri 3), .inl (G 0, 10, .inl (fun _ => 0))), ((ri 4), .inl (G 0, 10, .inl (fun _ => 0))), ((ri 5), .inl (G 0, 10, .inl (fun _ => 0))), ((ri 6), .inl (G 0, 10, .inl (fun _ => 0))), ((ri 7), .inl (G 0, 10, .inl (fun _ => 0))), ((ri 8), .inl (G 0, 10, .inl (fun _ => 0))), ((ri 9), .inl (G 0, 10, .inl (fun _ => 0))), ((ri 10), .inl (G 0, 10, .inl (fun _ => 0))), ((ro 0), .inl (G 0, 10, .inl (fun _ => 0))), ((ro 1), .inl (G 0, 10, .inl (fun _ => 0))), ((ro 2), .inl (G 0, 10, .inl (fun _ => 0))), ((ro 3), .inl (G 0, 10, .inl (fun _ => 0))), ((ro 4), .inl (G 0, 10, .inl (fun _ => 0))), ((ro 5), .inl (G 0, 10, .inl (fun _ => 0))), ((ro 6), .inl (G 0, 10, .inl (fun _ => 0))), ((ro 7), .inl (G 0, 10, .inl (fun _ => 0))), ((ro 8), .inl (G 0, 10, .inl (fun _ => 0))), ((ro 9), .inl (G 0, 10, .inl (fun _ => 0))), ((ro 10), .inl (G 0, 10, .inl (fun _ => 0)))]) (va_A [(h0, .inr (8, [.int 0, .null, .null]))] sz)) 24 242 (va_A [(h0, .inr (8, [.int 0, .null, .null]))] sz) := by
  refine Met.ofW (cc := cX8_init) (maxL := 1) (ret := none) (by decide) rfl ?_
  intro p e s m args below meth c s₁ Bd hml hv
  obtain ⟨rfl, hsz, hP, hK, hD0⟩ := hv
  have hx := Bd.exec
  have hb := Bd.bytes
  have hr := Bd.returns
  have hg : ∀ w ∈ GT, w.before ([.ref h0] : List Value).toArray s = true := fun w h => atoms_spec (ws := Cond.code yX8_init cX8_init 1 none :: GT) Bd.pre w (List.mem_cons_of_mem _ h)
  have hown : s.vm.findClass RX8 = some m.cls := findClass_of_methodNamed Bd.named
  have hlocks := Bd.notSynchronized
  have hin : meth.name = "<init>" := (name_of_methodNamed Bd.named Bd.method).1
  subst hsz
  have hD := hD0.self (sz := s.heap.size)
  generalize hAe : va_A [(h0, .inr (8, [.int 0, .null, .null]))] s.heap.size = A at hD ⊢
  have hA : ∀ q : Nat, s.heap.size ≤ q → A q := fun q h => by rw [← hAe]; exact Or.inr h
  have hS : va_S A s.heap s.heap [] := va_S.rf
  have hl := lv_entry ([.ref h0]) (n := 1) (Nat.le_of_ble_eq_true rfl)
  rw [lg_entry_eq]
  generalize (lg_sl ([.ref h0]) ++ List.replicate (1 - (lg_sl ([.ref h0])).length) Slot.unset).toArray = ls at hl ⊢
  have hl : lv_has ls 1 [(0, .ref h0)] := hl
  refine lv_aload_n hx hb dX8_init_0 rfl (lv_at hl 0 rfl) ?_
  refine W.objInit hx hb hown (hg _ wt_256) (hg _ wt_26) (hg _ wt_27) rfl (by rw [hml]; exact hl.1) rfl dX8_init_1 (Nat.le_of_ble_eq_true rfl) (Nat.le_of_ble_eq_true rfl) ?_
  refine W.eq (g2 := F0 m 4 ls []) rfl ?_
  refine lv_aload_n hx hb dX8_init_4 rfl (lv_at hl 0 rfl) ?_
  refine lv_bipush (v := 11) hx hb dX8_init_5 (by decide) ?_
  refine lv_bipush (v := 10) hx hb dX8_init_7 (by decide) ?_
  refine va_mnL (N' := 11) (K' := 10) (ty := .int) (cy := G 0) (z := (10, .inl (fun _ => 0))) hx hb hown (hg _ wt_257) (by decide +kernel) hK.2.2.2.1 (hg _ wt_49) (hK.1.2 0 _ rfl).2 hK.1 hP hD hS hA (by decide) (by decide) (by decide) (by decide) (by decide) (by decide) (by decide) (by decide) (by decide) (Nat.le_of_ble_eq_true rfl) (Nat.le_of_ble_eq_true rfl) (fun c => innI c 10) dX8_init_9 (fun q1 rr2 cA H hK9 hP hD hS => ?_)
  obtain rfl := uniA hK9 4 rfl
  have hP : va_P (dC, dI) vwCl [(h0, .inr (8, [.int 0, .null, .null])), (q1, .inl (G 4, 11, .inr (.inr (.inr (.inr (fun ir => if ir < 11 then some (rr2 ir) else none)))))), ((rr2 0), .inl (G 0, 10, .inl (fun _ => 0))), ((rr2 1), .inl (G 0, 10, .inl (fun _ => 0))), ((rr2 2), .inl (G 0, 10, .inl (fun _ => 0))), ((rr2 3), .inl (G 0, 10, .inl (fun _ => 0))), ((rr2 4), .inl (G 0, 10, .inl (fun _ => 0))), ((rr2 5), .inl (G 0, 10, .inl (fun _ => 0))), ((rr2 6), .inl (G 0, 10, .inl (fun _ => 0))), ((rr2 7), .inl (G 0, 10, .inl (fun _ => 0))), ((rr2 8), .inl (G 0, 10, .inl (fun _ => 0))), ((rr2 9), .inl (G 0, 10, .inl (fun _ => 0))), ((rr2 10), .inl (G 0, 10, .inl (fun _ => 0)))] H := hP
  have hD : va_D A [(h0, .inr (8, [.int 0, .null, .null])), (q1, .inl (G 4, 11, .inr (.inr (.inr (.inr (fun ir => if ir < 11 then some (rr2 ir) else none)))))), ((rr2 0), .inl (G 0, 10, .inl (fun _ => 0))), ((rr2 1), .inl (G 0, 10, .inl (fun _ => 0))), ((rr2 2), .inl (G 0, 10, .inl (fun _ => 0))), ((rr2 3), .inl (G 0, 10, .inl (fun _ => 0))), ((rr2 4), .inl (G 0, 10, .inl (fun _ => 0))), ((rr2 5), .inl (G 0, 10, .inl (fun _ => 0))), ((rr2 6), .inl (G 0, 10, .inl (fun _ => 0))), ((rr2 7), .inl (G 0, 10, .inl (fun _ => 0))), ((rr2 8), .inl (G 0, 10, .inl (fun _ => 0))), ((rr2 9), .inl (G 0, 10, .inl (fun _ => 0))), ((rr2 10), .inl (G 0, 10, .inl (fun _ => 0)))] := hD
  refine W.widen (k := 12) (n := 121) (by omega) (by omega) ?_
  refine va_putF (D := (dC, dI)) (ci := 8) (v := .ref q1) (ty := (.array (.array .int))) (C := RX8) (T := TX8) (N := 3) hx hb hg inG8 tyX8 tyX8_ok nmX8 hown hK.1 hP hD hS 0 rfl rfl 1 (by decide) (hg _ wt_260) (fun _ h9 => h9) rfl hin rfl (by decide +kernel) rfl rfl (Nat.le_of_ble_eq_true rfl) dX8_init_13 (fun H locs hP hD hS => ?_)
  have hP : va_P (dC, dI) vwCl [(h0, .inr (8, [.int 0, .ref q1, .null])), (q1, .inl (G 4, 11, .inr (.inr (.inr (.inr (fun ir => if ir < 11 then some (rr2 ir) else none)))))), ((rr2 0), .inl (G 0, 10, .inl (fun _ => 0))), ((rr2 1), .inl (G 0, 10, .inl (fun _ => 0))), ((rr2 2), .inl (G 0, 10, .inl (fun _ => 0))), ((rr2 3), .inl (G 0, 10, .inl (fun _ => 0))), ((rr2 4), .inl (G 0, 10, .inl (fun _ => 0))), ((rr2 5), .inl (G 0, 10, .inl (fun _ => 0))), ((rr2 6), .inl (G 0, 10, .inl (fun _ => 0))), ((rr2 7), .inl (G 0, 10, .inl (fun _ => 0))), ((rr2 8), .inl (G 0, 10, .inl (fun _ => 0))), ((rr2 9), .inl (G 0, 10, .inl (fun _ => 0))), ((rr2 10), .inl (G 0, 10, .inl (fun _ => 0)))] H := hP
  have hD : va_D A [(h0, .inr (8, [.int 0, .ref q1, .null])), (q1, .inl (G 4, 11, .inr (.inr (.inr (.inr (fun ir => if ir < 11 then some (rr2 ir) else none)))))), ((rr2 0), .inl (G 0, 10, .inl (fun _ => 0))), ((rr2 1), .inl (G 0, 10, .inl (fun _ => 0))), ((rr2 2), .inl (G 0, 10, .inl (fun _ => 0))), ((rr2 3), .inl (G 0, 10, .inl (fun _ => 0))), ((rr2 4), .inl (G 0, 10, .inl (fun _ => 0))), ((rr2 5), .inl (G 0, 10, .inl (fun _ => 0))), ((rr2 6), .inl (G 0, 10, .inl (fun _ => 0))), ((rr2 7), .inl (G 0, 10, .inl (fun _ => 0))), ((rr2 8), .inl (G 0, 10, .inl (fun _ => 0))), ((rr2 9), .inl (G 0, 10, .inl (fun _ => 0))), ((rr2 10), .inl (G 0, 10, .inl (fun _ => 0)))] := hD
  refine lv_aload_n hx hb dX8_init_16 rfl (lv_at hl 0 rfl) ?_
  refine lv_bipush (v := 11) hx hb dX8_init_17 (by decide) ?_
  refine lv_bipush (v := 10) hx hb dX8_init_19 (by decide) ?_
  refine va_mnL (N' := 11) (K' := 10) (ty := .int) (cy := G 0) (z := (10, .inl (fun _ => 0))) hx hb hown (hg _ wt_257) (by decide +kernel) hK.2.2.2.1 (hg _ wt_49) (hK.1.2 0 _ rfl).2 hK.1 hP hD hS hA (by decide) (by decide) (by decide) (by decide) (by decide) (by decide) (by decide) (by decide) (by decide) (Nat.le_of_ble_eq_true rfl) (Nat.le_of_ble_eq_true rfl) (fun c => innI c 10) dX8_init_21 (fun q3 rr4 cA H hK9 hP hD hS => ?_)
  obtain rfl := uniA hK9 4 rfl
  have hP : va_P (dC, dI) vwCl [(h0, .inr (8, [.int 0, .ref q1, .null])), (q1, .inl (G 4, 11, .inr (.inr (.inr (.inr (fun ir => if ir < 11 then some (rr2 ir) else none)))))), ((rr2 0), .inl (G 0, 10, .inl (fun _ => 0))), ((rr2 1), .inl (G 0, 10, .inl (fun _ => 0))), ((rr2 2), .inl (G 0, 10, .inl (fun _ => 0))), ((rr2 3), .inl (G 0, 10, .inl (fun _ => 0))), ((rr2 4), .inl (G 0, 10, .inl (fun _ => 0))), ((rr2 5), .inl (G 0, 10, .inl (fun _ => 0))), ((rr2 6), .inl (G 0, 10, .inl (fun _ => 0))), ((rr2 7), .inl (G 0, 10, .inl (fun _ => 0))), ((rr2 8), .inl (G 0, 10, .inl (fun _ => 0))), ((rr2 9), .inl (G 0, 10, .inl (fun _ => 0))), ((rr2 10), .inl (G 0, 10, .inl (fun _ => 0))), (q3, .inl (G 4, 11, .inr (.inr (.inr (.inr (fun ir => if ir < 11 then some (rr4 ir) else none)))))), ((rr4 0), .inl (G 0, 10, .inl (fun _ => 0))), ((rr4 1), .inl (G 0, 10, .inl (fun _ => 0))), ((rr4 2), .inl (G 0, 10, .inl (fun _ => 0))), ((rr4 3), .inl (G 0, 10, .inl (fun _ => 0))), ((rr4 4), .inl (G 0, 10, .inl (fun _ => 0))), ((rr4 5), .inl (G 0, 10, .inl (fun _ => 0))), ((rr4 6), .inl (G 0, 10, .inl (fun _ => 0))), ((rr4 7), .inl (G 0, 10, .inl (fun _ => 0))), ((rr4 8), .inl (G 0, 10, .inl (fun _ => 0))), ((rr4 9), .inl (G 0, 10, .inl (fun _ => 0))), ((rr4 10), .inl (G 0, 10, .inl (fun _ => 0)))] H := hP
  have hD : va_D A [(h0, .inr (8, [.int 0, .ref q1, .null])), (q1, .inl (G 4, 11, .inr (.inr (.inr (.inr (fun ir => if ir < 11 then some (rr2 ir) else none)))))), ((rr2 0), .inl (G 0, 10, .inl (fun _ => 0))), ((rr2 1), .inl (G 0, 10, .inl (fun _ => 0))), ((rr2 2), .inl (G 0, 10, .inl (fun _ => 0))), ((rr2 3), .inl (G 0, 10, .inl (fun _ => 0))), ((rr2 4), .inl (G 0, 10, .inl (fun _ => 0))), ((rr2 5), .inl (G 0, 10, .inl (fun _ => 0))), ((rr2 6), .inl (G 0, 10, .inl (fun _ => 0))), ((rr2 7), .inl (G 0, 10, .inl (fun _ => 0))), ((rr2 8), .inl (G 0, 10, .inl (fun _ => 0))), ((rr2 9), .inl (G 0, 10, .inl (fun _ => 0))), ((rr2 10), .inl (G 0, 10, .inl (fun _ => 0))), (q3, .inl (G 4, 11, .inr (.inr (.inr (.inr (fun ir => if ir < 11 then some (rr4 ir) else none)))))), ((rr4 0), .inl (G 0, 10, .inl (fun _ => 0))), ((rr4 1), .inl (G 0, 10, .inl (fun _ => 0))), ((rr4 2), .inl (G 0, 10, .inl (fun _ => 0))), ((rr4 3), .inl (G 0, 10, .inl (fun _ => 0))), ((rr4 4), .inl (G 0, 10, .inl (fun _ => 0))), ((rr4 5), .inl (G 0, 10, .inl (fun _ => 0))), ((rr4 6), .inl (G 0, 10, .inl (fun _ => 0))), ((rr4 7), .inl (G 0, 10, .inl (fun _ => 0))), ((rr4 8), .inl (G 0, 10, .inl (fun _ => 0))), ((rr4 9), .inl (G 0, 10, .inl (fun _ => 0))), ((rr4 10), .inl (G 0, 10, .inl (fun _ => 0)))] := hD
  refine W.widen (k := 24) (n := 242) (by omega) (by omega) ?_
  refine va_putF (D := (dC, dI)) (ci := 8) (v := .ref q3) (ty := (.array (.array .int))) (C := RX8) (T := TX8) (N := 3) hx hb hg inG8 tyX8 tyX8_ok nmX8 hown hK.1 hP hD hS 0 rfl rfl 2 (by decide) (hg _ wt_261) (fun _ h9 => h9) rfl hin rfl (by decide +kernel) rfl rfl (Nat.le_of_ble_eq_true rfl) dX8_init_25 (fun H locs hP hD hS => ?_)
  have hP : va_P (dC, dI) vwCl [(h0, .inr (8, [.int 0, .ref q1, .ref q3])), (q1, .inl (G 4, 11, .inr (.inr (.inr (.inr (fun ir => if ir < 11 then some (rr2 ir) else none)))))), ((rr2 0), .inl (G 0, 10, .inl (fun _ => 0))), ((rr2 1), .inl (G 0, 10, .inl (fun _ => 0))), ((rr2 2), .inl (G 0, 10, .inl (fun _ => 0))), ((rr2 3), .inl (G 0, 10, .inl (fun _ => 0))), ((rr2 4), .inl (G 0, 10, .inl (fun _ => 0))), ((rr2 5), .inl (G 0, 10, .inl (fun _ => 0))), ((rr2 6), .inl (G 0, 10, .inl (fun _ => 0))), ((rr2 7), .inl (G 0, 10, .inl (fun _ => 0))), ((rr2 8), .inl (G 0, 10, .inl (fun _ => 0))), ((rr2 9), .inl (G 0, 10, .inl (fun _ => 0))), ((rr2 10), .inl (G 0, 10, .inl (fun _ => 0))), (q3, .inl (G 4, 11, .inr (.inr (.inr (.inr (fun ir => if ir < 11 then some (rr4 ir) else none)))))), ((rr4 0), .inl (G 0, 10, .inl (fun _ => 0))), ((rr4 1), .inl (G 0, 10, .inl (fun _ => 0))), ((rr4 2), .inl (G 0, 10, .inl (fun _ => 0))), ((rr4 3), .inl (G 0, 10, .inl (fun _ => 0))), ((rr4 4), .inl (G 0, 10, .inl (fun _ => 0))), ((rr4 5), .inl (G 0, 10, .inl (fun _ => 0))), ((rr4 6), .inl (G 0, 10, .inl (fun _ => 0))), ((rr4 7), .inl (G 0, 10, .inl (fun _ => 0))), ((rr4 8), .inl (G 0, 10, .inl (fun _ => 0))), ((rr4 9), .inl (G 0, 10, .inl (fun _ => 0))), ((rr4 10), .inl (G 0, 10, .inl (fun _ => 0)))] H := hP
  have hD : va_D A [(h0, .inr (8, [.int 0, .ref q1, .ref q3])), (q1, .inl (G 4, 11, .inr (.inr (.inr (.inr (fun ir => if ir < 11 then some (rr2 ir) else none)))))), ((rr2 0), .inl (G 0, 10, .inl (fun _ => 0))), ((rr2 1), .inl (G 0, 10, .inl (fun _ => 0))), ((rr2 2), .inl (G 0, 10, .inl (fun _ => 0))), ((rr2 3), .inl (G 0, 10, .inl (fun _ => 0))), ((rr2 4), .inl (G 0, 10, .inl (fun _ => 0))), ((rr2 5), .inl (G 0, 10, .inl (fun _ => 0))), ((rr2 6), .inl (G 0, 10, .inl (fun _ => 0))), ((rr2 7), .inl (G 0, 10, .inl (fun _ => 0))), ((rr2 8), .inl (G 0, 10, .inl (fun _ => 0))), ((rr2 9), .inl (G 0, 10, .inl (fun _ => 0))), ((rr2 10), .inl (G 0, 10, .inl (fun _ => 0))), (q3, .inl (G 4, 11, .inr (.inr (.inr (.inr (fun ir => if ir < 11 then some (rr4 ir) else none)))))), ((rr4 0), .inl (G 0, 10, .inl (fun _ => 0))), ((rr4 1), .inl (G 0, 10, .inl (fun _ => 0))), ((rr4 2), .inl (G 0, 10, .inl (fun _ => 0))), ((rr4 3), .inl (G 0, 10, .inl (fun _ => 0))), ((rr4 4), .inl (G 0, 10, .inl (fun _ => 0))), ((rr4 5), .inl (G 0, 10, .inl (fun _ => 0))), ((rr4 6), .inl (G 0, 10, .inl (fun _ => 0))), ((rr4 7), .inl (G 0, 10, .inl (fun _ => 0))), ((rr4 8), .inl (G 0, 10, .inl (fun _ => 0))), ((rr4 9), .inl (G 0, 10, .inl (fun _ => 0))), ((rr4 10), .inl (G 0, 10, .inl (fun _ => 0)))] := hD
  have hP9 := hP.sub (ws' := [(h0, .inr (8, [.int 0, .ref q1, .ref q3])), (q1, .inl (G 4, 11, .inr (.inr (.inr (.inr (fun ir => if ir < 11 then some (rr2 ir) else none)))))), (q3, .inl (G 4, 11, .inr (.inr (.inr (.inr (fun ir => if ir < 11 then some (rr4 ir) else none)))))), ((rr2 0), .inl (G 0, 10, .inl (fun _ => 0))), ((rr2 1), .inl (G 0, 10, .inl (fun _ => 0))), ((rr2 2), .inl (G 0, 10, .inl (fun _ => 0))), ((rr2 3), .inl (G 0, 10, .inl (fun _ => 0))), ((rr2 4), .inl (G 0, 10, .inl (fun _ => 0))), ((rr2 5), .inl (G 0, 10, .inl (fun _ => 0))), ((rr2 6), .inl (G 0, 10, .inl (fun _ => 0))), ((rr2 7), .inl (G 0, 10, .inl (fun _ => 0))), ((rr2 8), .inl (G 0, 10, .inl (fun _ => 0))), ((rr2 9), .inl (G 0, 10, .inl (fun _ => 0))), ((rr2 10), .inl (G 0, 10, .inl (fun _ => 0))), ((rr4 0), .inl (G 0, 10, .inl (fun _ => 0))), ((rr4 1), .inl (G 0, 10, .inl (fun _ => 0))), ((rr4 2), .inl (G 0, 10, .inl (fun _ => 0))), ((rr4 3), .inl (G 0, 10, .inl (fun _ => 0))), ((rr4 4), .inl (G 0, 10, .inl (fun _ => 0))), ((rr4 5), .inl (G 0, 10, .inl (fun _ => 0))), ((rr4 6), .inl (G 0, 10, .inl (fun _ => 0))), ((rr4 7), .inl (G 0, 10, .inl (fun _ => 0))), ((rr4 8), .inl (G 0, 10, .inl (fun _ => 0))), ((rr4 9), .inl (G 0, 10, .inl (fun _ => 0))), ((rr4 10), .inl (G 0, 10, .inl (fun _ => 0)))]) [0, 1, 13, 2, 3, 4, 5, 6, 7, 8, 9, 10, 11, 12, 14, 15, 16, 17, 18, 19, 20, 21, 22, 23, 24] rfl
  have hD9 := hD.sub (ws' := [(h0, .inr (8, [.int 0, .ref q1, .ref q3])), (q1, .inl (G 4, 11, .inr (.inr (.inr (.inr (fun ir => if ir < 11 then some (rr2 ir) else none)))))), (q3, .inl (G 4, 11, .inr (.inr (.inr (.inr (fun ir => if ir < 11 then some (rr4 ir) else none)))))), ((rr2 0), .inl (G 0, 10, .inl (fun _ => 0))), ((rr2 1), .inl (G 0, 10, .inl (fun _ => 0))), ((rr2 2), .inl (G 0, 10, .inl (fun _ => 0))), ((rr2 3), .inl (G 0, 10, .inl (fun _ => 0))), ((rr2 4), .inl (G 0, 10, .inl (fun _ => 0))), ((rr2 5), .inl (G 0, 10, .inl (fun _ => 0))), ((rr2 6), .inl (G 0, 10, .inl (fun _ => 0))), ((rr2 7), .inl (G 0, 10, .inl (fun _ => 0))), ((rr2 8), .inl (G 0, 10, .inl (fun _ => 0))), ((rr2 9), .inl (G 0, 10, .inl (fun _ => 0))), ((rr2 10), .inl (G 0, 10, .inl (fun _ => 0))), ((rr4 0), .inl (G 0, 10, .inl (fun _ => 0))), ((rr4 1), .inl (G 0, 10, .inl (fun _ => 0))), ((rr4 2), .inl (G 0, 10, .inl (fun _ => 0))), ((rr4 3), .inl (G 0, 10, .inl (fun _ => 0))), ((rr4 4), .inl (G 0, 10, .inl (fun _ => 0))), ((rr4 5), .inl (G 0, 10, .inl (fun _ => 0))), ((rr4 6), .inl (G 0, 10, .inl (fun _ => 0))), ((rr4 7), .inl (G 0, 10, .inl (fun _ => 0))), ((rr4 8), .inl (G 0, 10, .inl (fun _ => 0))), ((rr4 9), .inl (G 0, 10, .inl (fun _ => 0))), ((rr4 10), .inl (G 0, 10, .inl (fun _ => 0)))]) [0, 1, 13, 2, 3, 4, 5, 6, 7, 8, 9, 10, 11, 12, 14, 15, 16, 17, 18, 19, 20, 21, 22, 23, 24] (by decide) rfl
  refine W.widen (k := 24) (n := 242) (by omega) (by omega) ?_
  exact W.vret hx hb hr (fun t ht hW => ⟨⟨((fun k => match k with | 0 => q1 | 1 => q3 | _ => 0), rr2, rr4), rfl, trivial, ⟨by rw [ht]; exact hP9, hD9⟩⟩, hS.F ht⟩) hS.2.2 dX8_init_28

set_option maxHeartbeats 1000000 in
set_option maxRecDepth 100000 in
theorem c_X6_init (l : Launch) (dC : Nat → ClassId) (dI : Nat → Nat → Nat) (G : Nat → ClassId) (sz : Nat) (h0 : Nat)  : Met l yX6_init (Cond.code yX6_init cX6_init 1 none :: GT) ({ frames := 1, cells := 9, slots := 212, locals := 24 } : Room) (PcW [.ref h0] dC dI G [(h0, .inr (6, [.null, .null, .null, .int 0, .int 0, .null, .null]))] sz) (va_Qv (fun (u : (Nat → Nat) × (Nat → Nat)) => match u with | (v, rc) => True) (fun (u : (Nat → Nat) × (Nat → Nat)) (t : State) => match u with | (v, rc) => va_P (dC, dI) vwCl [(h0, .inr (6, [.ref (v 0), .ref (v 1), .ref (v 2), .int 0, .int 0, .ref (v 3), .ref (v 4)])), ((v 0), .inl (G 0, 4, .inl (upd (upd (upd (upd (fun _ => 0) 0 (-1)) 1 (-1)) 2 (-1)) 3 (-1)))), ((v 1), .inl (G 0, 4, .inl (fun _ => 0))), ((v 2), .inl (G 4, 4, .inr (.inr (.inr (.inr (fun ir => if ir < 4 then some (rc ir) else none)))))), ((v 3), .inl (G 0, 20, .inl (fun _ => 0))), ((v 4), .inl (G 0, 20, .inl (fun _ => 0))), ((rc 0), .inl (G 0, 40, .inl (fun _ => 0))), ((rc 1), .inl (G 0, 40, .inl (fun _ => 0))), ((rc 2), .inl (G 0, 40, .inl (fun _ => 0))), ((rc 3), .inl (G 0, 40, .inl (fun _ => 0)))] t.heap ∧ va_D (va_A [(h0, .inr (6, [.null, .null, .null, .int 0, .int 0, .null, .null]))] sz) [(h0, .inr (6, [.ref (v 0), .ref (v 1), .ref (v 2), .int 0, .int 0, .ref (v 3), .ref (v 4)])), ((v 0), .inl (G 0, 4, .inl (upd (upd (upd (upd (fun _ => 0) 0 (-1)) 1 (-1)) 2 (-1)) 3 (-1)))), ((v 1), .inl (G 0, 4, .inl (fun _ => 0))), ((v 2), .inl (G 4, 4, .inr (.inr (.inr (.inr (fun ir => if ir < 4 then some (rc ir) else none)))))), ((v 3), .inl (G 0, 20, .inl (fun _ => 0))), ((v 4), .inl (G 0, 20, .inl (fun _ => 0))), ((rc 0), .inl (G 0, 40, .inl (fun _ => 0))), ((rc 1), .inl (G 0, 40, .inl (fun _ => 0))), ((rc 2), .inl (G 0, 40, .inl (fun _ => 0))), ((rc 3), .inl (G 0, 40, .inl (fun _ => 0)))]) (va_A [(h0, .inr (6, [.null, .null, .null, .int 0, .int 0, .null, .null]))] sz)) 9 212 (va_A [(h0, .inr (6, [.null, .null, .null, .int 0, .int 0, .null, .null]))] sz) := by
  refine Met.ofW (cc := cX6_init) (maxL := 1) (ret := none) (by decide) rfl ?_
  intro p e s m args below meth c s₁ Bd hml hv
  obtain ⟨rfl, hsz, hP, hK, hD0⟩ := hv
  have hx := Bd.exec
  have hb := Bd.bytes
  have hr := Bd.returns
  have hg : ∀ w ∈ GT, w.before ([.ref h0] : List Value).toArray s = true := fun w h => atoms_spec (ws := Cond.code yX6_init cX6_init 1 none :: GT) Bd.pre w (List.mem_cons_of_mem _ h)
  have hown : s.vm.findClass RX6 = some m.cls := findClass_of_methodNamed Bd.named
  have hlocks := Bd.notSynchronized
  have hin : meth.name = "<init>" := (name_of_methodNamed Bd.named Bd.method).1
  subst hsz
  have hD := hD0.self (sz := s.heap.size)
  generalize hAe : va_A [(h0, .inr (6, [.null, .null, .null, .int 0, .int 0, .null, .null]))] s.heap.size = A at hD ⊢
  have hA : ∀ q : Nat, s.heap.size ≤ q → A q := fun q h => by rw [← hAe]; exact Or.inr h
  have hS : va_S A s.heap s.heap [] := va_S.rf
  have hl := lv_entry ([.ref h0]) (n := 1) (Nat.le_of_ble_eq_true rfl)
  rw [lg_entry_eq]
  generalize (lg_sl ([.ref h0]) ++ List.replicate (1 - (lg_sl ([.ref h0])).length) Slot.unset).toArray = ls at hl ⊢
  have hl : lv_has ls 1 [(0, .ref h0)] := hl
  refine lv_aload_n hx hb dX6_init_0 rfl (lv_at hl 0 rfl) ?_
  refine W.objInit hx hb hown (hg _ wt_274) (hg _ wt_26) (hg _ wt_27) rfl (by rw [hml]; exact hl.1) rfl dX6_init_1 (Nat.le_of_ble_eq_true rfl) (Nat.le_of_ble_eq_true rfl) ?_
  refine W.eq (g2 := F0 m 4 ls []) rfl ?_
  refine lv_aload_n hx hb dX6_init_4 rfl (lv_at hl 0 rfl) ?_
  refine lv_iconst (v := 4) hx hb dX6_init_5 (by decide) ?_
  refine va_newa (atype := .int) (N' := 4) (a0 := (4, .inl (fun _ => 0))) hx hb (hg _ wt_49) rfl hK.1 hP hD hS hA (fun _ => rfl) (by decide) (by decide) (by decide) (Nat.le_of_ble_eq_true rfl) (Nat.le_of_ble_eq_true rfl) dX6_init_6 (fun q1 cA H hK9 hP hD hS => ?_)
  obtain rfl := uniA hK9 0 rfl
  have hP : va_P (dC, dI) vwCl [(h0, .inr (6, [.null, .null, .null, .int 0, .int 0, .null, .null])), (q1, .inl (G 0, 4, .inl (fun _ => 0)))] H := hP
  have hD : va_D A [(h0, .inr (6, [.null, .null, .null, .int 0, .int 0, .null, .null])), (q1, .inl (G 0, 4, .inl (fun _ => 0)))] := hD
  refine W.widen (k := 1) (n := 4) (by omega) (by omega) ?_
  refine lv_dup hx hb dX6_init_8 rfl ?_
  refine lv_iconst (v := 0) hx hb dX6_init_9 (by decide) ?_
  refine lv_iconst (v := (-1)) hx hb dX6_init_10 (by decide) ?_
  refine va_iast hx hb hK.1 hP hD hS 1 0 rfl rfl (vp_in_iff.mpr ⟨by decide, by decide⟩) dX6_init_11 (fun H locs hP hD hS => ?_)
  have hP : va_P (dC, dI) vwCl [(h0, .inr (6, [.null, .null, .null, .int 0, .int 0, .null, .null])), (q1, .inl (G 0, 4, .inl (upd (fun _ => 0) 0 (-1))))] H := hP
  have hD : va_D A [(h0, .inr (6, [.null, .null, .null, .int 0, .int 0, .null, .null])), (q1, .inl (G 0, 4, .inl (upd (fun _ => 0) 0 (-1))))] := hD
  refine lv_dup hx hb dX6_init_12 rfl ?_
  refine lv_iconst (v := 1) hx hb dX6_init_13 (by decide) ?_
  refine lv_iconst (v := (-1)) hx hb dX6_init_14 (by decide) ?_
  refine va_iast hx hb hK.1 hP hD hS 1 0 rfl rfl (vp_in_iff.mpr ⟨by decide, by decide⟩) dX6_init_15 (fun H locs hP hD hS => ?_)
  have hP : va_P (dC, dI) vwCl [(h0, .inr (6, [.null, .null, .null, .int 0, .int 0, .null, .null])), (q1, .inl (G 0, 4, .inl (upd (upd (fun _ => 0) 0 (-1)) 1 (-1))))] H := hP
  have hD : va_D A [(h0, .inr (6, [.null, .null, .null, .int 0, .int 0, .null, .null])), (q1, .inl (G 0, 4, .inl (upd (upd (fun _ => 0) 0 (-1)) 1 (-1))))] := hD
  refine lv_dup hx hb dX6_init_16 rfl ?_
  refine lv_iconst (v := 2) hx hb dX6_init_17 (by decide) ?_
  refine lv_iconst (v := (-1)) hx hb dX6_init_18 (by decide) ?_
  refine va_iast hx hb hK.1 hP hD hS 1 0 rfl rfl (vp_in_iff.mpr ⟨by decide, by decide⟩) dX6_init_19 (fun H locs hP hD hS => ?_)
  have hP : va_P (dC, dI) vwCl [(h0, .inr (6, [.null, .null, .null, .int 0, .int 0, .null, .null])), (q1, .inl (G 0, 4, .inl (upd (upd (upd (fun _ => 0) 0 (-1)) 1 (-1)) 2 (-1))))] H := hP
  have hD : va_D A [(h0, .inr (6, [.null, .null, .null, .int 0, .int 0, .null, .null])), (q1, .inl (G 0, 4, .inl (upd (upd (upd (fun _ => 0) 0 (-1)) 1 (-1)) 2 (-1))))] := hD
  refine lv_dup hx hb dX6_init_20 rfl ?_
  refine lv_iconst (v := 3) hx hb dX6_init_21 (by decide) ?_
  refine lv_iconst (v := (-1)) hx hb dX6_init_22 (by decide) ?_
  refine va_iast hx hb hK.1 hP hD hS 1 0 rfl rfl (vp_in_iff.mpr ⟨by decide, by decide⟩) dX6_init_23 (fun H locs hP hD hS => ?_)
  have hP : va_P (dC, dI) vwCl [(h0, .inr (6, [.null, .null, .null, .int 0, .int 0, .null, .null])), (q1, .inl (G 0, 4, .inl (upd (upd (upd (upd (fun _ => 0) 0 (-1)) 1 (-1)) 2 (-1)) 3 (-1))))] H := hP
  have hD : va_D A [(h0, .inr (6, [.null, .null, .null, .int 0, .int 0, .null, .null])), (q1, .inl (G 0, 4, .inl (upd (upd (upd (upd (fun _ => 0) 0 (-1)) 1 (-1)) 2 (-1)) 3 (-1))))] := hD
  refine va_putF (D := (dC, dI)) (ci := 6) (v := .ref q1) (ty := (.array .int)) (C := RX6) (T := TX6) (N := 7) hx hb hg inG6 tyX6 tyX6_ok nmX6 hown hK.1 hP hD hS 0 rfl rfl 0 (by decide) (hg _ wt_276) (fun _ h9 => h9) rfl hin rfl (by decide +kernel) rfl rfl (Nat.le_of_ble_eq_true rfl) dX6_init_24 (fun H locs hP hD hS => ?_)
  have hP : va_P (dC, dI) vwCl [(h0, .inr (6, [.ref q1, .null, .null, .int 0, .int 0, .null, .null])), (q1, .inl (G 0, 4, .inl (upd (upd (upd (upd (fun _ => 0) 0 (-1)) 1 (-1)) 2 (-1)) 3 (-1))))] H := hP
  have hD : va_D A [(h0, .inr (6, [.ref q1, .null, .null, .int 0, .int 0, .null, .null])), (q1, .inl (G 0, 4, .inl (upd (upd (upd (upd (fun _ => 0) 0 (-1)) 1 (-1)) 2 (-1)) 3 (-1))))] := hD
  refine lv_aload_n hx hb dX6_init_27 rfl (lv_at hl 0 rfl) ?_
  refine lv_iconst (v := 4) hx hb dX6_init_28 (by decide) ?_
  refine va_newa (atype := .int) (N' := 4) (a0 := (4, .inl (fun _ => 0))) hx hb (hg _ wt_49) rfl hK.1 hP hD hS hA (fun _ => rfl) (by decide) (by decide) (by decide) (Nat.le_of_ble_eq_true rfl) (Nat.le_of_ble_eq_true rfl) dX6_init_29 (fun q2 cA H hK9 hP hD hS => ?_)
  obtain rfl := uniA hK9 0 rfl
  have hP : va_P (dC, dI) vwCl [(h0, .inr (6, [.ref q1, .null, .null, .int 0, .int 0, .null, .null])), (q1, .inl (G 0, 4, .inl (upd (upd (upd (upd (fun _ => 0) 0 (-1)) 1 (-1)) 2 (-1)) 3 (-1)))), (q2, .inl (G 0, 4, .inl (fun _ => 0)))] H := hP
  have hD : va_D A [(h0, .inr (6, [.ref q1, .null, .null, .int 0, .int 0, .null, .null])), (q1, .inl (G 0, 4, .inl (upd (upd (upd (upd (fun _ => 0) 0 (-1)) 1 (-1)) 2 (-1)) 3 (-1)))), (q2, .inl (G 0, 4, .inl (fun _ => 0)))] := hD
  refine W.widen (k := 2) (n := 8) (by omega) (by omega) ?_
  refine va_putF (D := (dC, dI)) (ci := 6) (v := .ref q2) (ty := (.array .int)) (C := RX6) (T := TX6) (N := 7) hx hb hg inG6 tyX6 tyX6_ok nmX6 hown hK.1 hP hD hS 0 rfl rfl 1 (by decide) (hg _ wt_277) (fun _ h9 => h9) rfl hin rfl (by decide +kernel) rfl rfl (Nat.le_of_ble_eq_true rfl) dX6_init_31 (fun H locs hP hD hS => ?_)
  have hP : va_P (dC, dI) vwCl [(h0, .inr (6, [.ref q1, .ref q2, .null, .int 0, .int 0, .null, .null])), (q1, .inl (G 0, 4, .inl (upd (upd (upd (upd (fun _ => 0) 0 (-1)) 1 (-1)) 2 (-1)) 3 (-1)))), (q2, .inl (G 0, 4, .inl (fun _ => 0)))] H := hP
  have hD : va_D A [(h0, .inr (6, [.ref q1, .ref q2, .null, .int 0, .int 0, .null, .null])), (q1, .inl (G 0, 4, .inl (upd (upd (upd (upd (fun _ => 0) 0 (-1)) 1 (-1)) 2 (-1)) 3 (-1)))), (q2, .inl (G 0, 4, .inl (fun _ => 0)))] := hD
  refine lv_aload_n hx hb dX6_init_34 rfl (lv_at hl 0 rfl) ?_
  refine lv_iconst (v := 4) hx hb dX6_init_35 (by decide) ?_
  refine lv_bipush (v := 40) hx hb dX6_init_36 (by decide) ?_
  refine va_mnL (N' := 4) (K' := 40) (ty := .int) (cy := G 0) (z := (40, .inl (fun _ => 0))) hx hb hown (hg _ wt_275) (by decide +kernel) hK.2.2.2.1 (hg _ wt_49) (hK.1.2 0 _ rfl).2 hK.1 hP hD hS hA (by decide) (by decide) (by decide) (by decide) (by decide) (by decide) (by decide) (by decide) (by decide) (Nat.le_of_ble_eq_true rfl) (Nat.le_of_ble_eq_true rfl) (fun c => innI c 40) dX6_init_38 (fun q3 rr4 cA H hK9 hP hD hS => ?_)
  obtain rfl := uniA hK9 4 rfl
  have hP : va_P (dC, dI) vwCl [(h0, .inr (6, [.ref q1, .ref q2, .null, .int 0, .int 0, .null, .null])), (q1, .inl (G 0, 4, .inl (upd (upd (upd (upd (fun _ => 0) 0 (-1)) 1 (-1)) 2 (-1)) 3 (-1)))), (q2, .inl (G 0, 4, .inl (fun _ => 0))), (q3, .inl (G 4, 4, .inr (.inr (.inr (.inr (fun ir => if ir < 4 then some (rr4 ir) else none)))))), ((rr4 0), .inl (G 0, 40, .inl (fun _ => 0))), ((rr4 1), .inl (G 0, 40, .inl (fun _ => 0))), ((rr4 2), .inl (G 0, 40, .inl (fun _ => 0))), ((rr4 3), .inl (G 0, 40, .inl (fun _ => 0)))] H := hP
  have hD : va_D A [(h0, .inr (6, [.ref q1, .ref q2, .null, .int 0, .int 0, .null, .null])), (q1, .inl (G 0, 4, .inl (upd (upd (upd (upd (fun _ => 0) 0 (-1)) 1 (-1)) 2 (-1)) 3 (-1)))), (q2, .inl (G 0, 4, .inl (fun _ => 0))), (q3, .inl (G 4, 4, .inr (.inr (.inr (.inr (fun ir => if ir < 4 then some (rr4 ir) else none)))))), ((rr4 0), .inl (G 0, 40, .inl (fun _ => 0))), ((rr4 1), .inl (G 0, 40, .inl (fun _ => 0))), ((rr4 2), .inl (G 0, 40, .inl (fun _ => 0))), ((rr4 3), .inl (G 0, 40, .inl (fun _ => 0)))] := hD
  refine W.widen (k := 7) (n := 172) (by omega) (by omega) ?_
  refine va_putF (D := (dC, dI)) (ci := 6) (v := .ref q3) (ty := (.array (.array .int))) (C := RX6) (T := TX6) (N := 7) hx hb hg inG6 tyX6 tyX6_ok nmX6 hown hK.1 hP hD hS 0 rfl rfl 2 (by decide) (hg _ wt_278) (fun _ h9 => h9) rfl hin rfl (by decide +kernel) rfl rfl (Nat.le_of_ble_eq_true rfl) dX6_init_42 (fun H locs hP hD hS => ?_)
  have hP : va_P (dC, dI) vwCl [(h0, .inr (6, [.ref q1, .ref q2, .ref q3, .int 0, .int 0, .null, .null])), (q1, .inl (G 0, 4, .inl (upd (upd (upd (upd (fun _ => 0) 0 (-1)) 1 (-1)) 2 (-1)) 3 (-1)))), (q2, .inl (G 0, 4, .inl (fun _ => 0))), (q3, .inl (G 4, 4, .inr (.inr (.inr (.inr (fun ir => if ir < 4 then some (rr4 ir) else none)))))), ((rr4 0), .inl (G 0, 40, .inl (fun _ => 0))), ((rr4 1), .inl (G 0, 40, .inl (fun _ => 0))), ((rr4 2), .inl (G 0, 40, .inl (fun _ => 0))), ((rr4 3), .inl (G 0, 40, .inl (fun _ => 0)))] H := hP
  have hD : va_D A [(h0, .inr (6, [.ref q1, .ref q2, .ref q3, .int 0, .int 0, .null, .null])), (q1, .inl (G 0, 4, .inl (upd (upd (upd (upd (fun _ => 0) 0 (-1)) 1 (-1)) 2 (-1)) 3 (-1)))), (q2, .inl (G 0, 4, .inl (fun _ => 0))), (q3, .inl (G 4, 4, .inr (.inr (.inr (.inr (fun ir => if ir < 4 then some (rr4 ir) else none)))))), ((rr4 0), .inl (G 0, 40, .inl (fun _ => 0))), ((rr4 1), .inl (G 0, 40, .inl (fun _ => 0))), ((rr4 2), .inl (G 0, 40, .inl (fun _ => 0))), ((rr4 3), .inl (G 0, 40, .inl (fun _ => 0)))] := hD
  refine lv_aload_n hx hb dX6_init_45 rfl (lv_at hl 0 rfl) ?_
  refine lv_bipush (v := 20) hx hb dX6_init_46 (by decide) ?_
  refine va_newa (atype := .int) (N' := 20) (a0 := (20, .inl (fun _ => 0))) hx hb (hg _ wt_49) rfl hK.1 hP hD hS hA (fun _ => rfl) (by decide) (by decide) (by decide) (Nat.le_of_ble_eq_true rfl) (Nat.le_of_ble_eq_true rfl) dX6_init_48 (fun q5 cA H hK9 hP hD hS => ?_)
  obtain rfl := uniA hK9 0 rfl
  have hP : va_P (dC, dI) vwCl [(h0, .inr (6, [.ref q1, .ref q2, .ref q3, .int 0, .int 0, .null, .null])), (q1, .inl (G 0, 4, .inl (upd (upd (upd (upd (fun _ => 0) 0 (-1)) 1 (-1)) 2 (-1)) 3 (-1)))), (q2, .inl (G 0, 4, .inl (fun _ => 0))), (q3, .inl (G 4, 4, .inr (.inr (.inr (.inr (fun ir => if ir < 4 then some (rr4 ir) else none)))))), ((rr4 0), .inl (G 0, 40, .inl (fun _ => 0))), ((rr4 1), .inl (G 0, 40, .inl (fun _ => 0))), ((rr4 2), .inl (G 0, 40, .inl (fun _ => 0))), ((rr4 3), .inl (G 0, 40, .inl (fun _ => 0))), (q5, .inl (G 0, 20, .inl (fun _ => 0)))] H := hP
  have hD : va_D A [(h0, .inr (6, [.ref q1, .ref q2, .ref q3, .int 0, .int 0, .null, .null])), (q1, .inl (G 0, 4, .inl (upd (upd (upd (upd (fun _ => 0) 0 (-1)) 1 (-1)) 2 (-1)) 3 (-1)))), (q2, .inl (G 0, 4, .inl (fun _ => 0))), (q3, .inl (G 4, 4, .inr (.inr (.inr (.inr (fun ir => if ir < 4 then some (rr4 ir) else none)))))), ((rr4 0), .inl (G 0, 40, .inl (fun _ => 0))), ((rr4 1), .inl (G 0, 40, .inl (fun _ => 0))), ((rr4 2), .inl (G 0, 40, .inl (fun _ => 0))), ((rr4 3), .inl (G 0, 40, .inl (fun _ => 0))), (q5, .inl (G 0, 20, .inl (fun _ => 0)))] := hD
  refine W.widen (k := 8) (n := 192) (by omega) (by omega) ?_
  refine va_putF (D := (dC, dI)) (ci := 6) (v := .ref q5) (ty := (.array .int)) (C := RX6) (T := TX6) (N := 7) hx hb hg inG6 tyX6 tyX6_ok nmX6 hown hK.1 hP hD hS 0 rfl rfl 5 (by decide) (hg _ wt_283) (fun _ h9 => h9) rfl hin rfl (by decide +kernel) rfl rfl (Nat.le_of_ble_eq_true rfl) dX6_init_50 (fun H locs hP hD hS => ?_)
  have hP : va_P (dC, dI) vwCl [(h0, .inr (6, [.ref q1, .ref q2, .ref q3, .int 0, .int 0, .ref q5, .null])), (q1, .inl (G 0, 4, .inl (upd (upd (upd (upd (fun _ => 0) 0 (-1)) 1 (-1)) 2 (-1)) 3 (-1)))), (q2, .inl (G 0, 4, .inl (fun _ => 0))), (q3, .inl (G 4, 4, .inr (.inr (.inr (.inr (fun ir => if ir < 4 then some (rr4 ir) else none)))))), ((rr4 0), .inl (G 0, 40, .inl (fun _ => 0))), ((rr4 1), .inl (G 0, 40, .inl (fun _ => 0))), ((rr4 2), .inl (G 0, 40, .inl (fun _ => 0))), ((rr4 3), .inl (G 0, 40, .inl (fun _ => 0))), (q5, .inl (G 0, 20, .inl (fun _ => 0)))] H := hP
  have hD : va_D A [(h0, .inr (6, [.ref q1, .ref q2, .ref q3, .int 0, .int 0, .ref q5, .null])), (q1, .inl (G 0, 4, .inl (upd (upd (upd (upd (fun _ => 0) 0 (-1)) 1 (-1)) 2 (-1)) 3 (-1)))), (q2, .inl (G 0, 4, .inl (fun _ => 0))), (q3, .inl (G 4, 4, .inr (.inr (.inr (.inr (fun ir => if ir < 4 then some (rr4 ir) else none)))))), ((rr4 0), .inl (G 0, 40, .inl (fun _ => 0))), ((rr4 1), .inl (G 0, 40, .inl (fun _ => 0))), ((rr4 2), .inl (G 0, 40, .inl (fun _ => 0))), ((rr4 3), .inl (G 0, 40, .inl (fun _ => 0))), (q5, .inl (G 0, 20, .inl (fun _ => 0)))] := hD
  refine lv_aload_n hx hb dX6_init_53 rfl (lv_at hl 0 rfl) ?_
  refine lv_bipush (v := 20) hx hb dX6_init_54 (by decide) ?_
  refine va_newa (atype := .int) (N' := 20) (a0 := (20, .inl (fun _ => 0))) hx hb (hg _ wt_49) rfl hK.1 hP hD hS hA (fun _ => rfl) (by decide) (by decide) (by decide) (Nat.le_of_ble_eq_true rfl) (Nat.le_of_ble_eq_true rfl) dX6_init_56 (fun q6 cA H hK9 hP hD hS => ?_)
  obtain rfl := uniA hK9 0 rfl
  have hP : va_P (dC, dI) vwCl [(h0, .inr (6, [.ref q1, .ref q2, .ref q3, .int 0, .int 0, .ref q5, .null])), (q1, .inl (G 0, 4, .inl (upd (upd (upd (upd (fun _ => 0) 0 (-1)) 1 (-1)) 2 (-1)) 3 (-1)))), (q2, .inl (G 0, 4, .inl (fun _ => 0))), (q3, .inl (G 4, 4, .inr (.inr (.inr (.inr (fun ir => if ir < 4 then some (rr4 ir) else none)))))), ((rr4 0), .inl (G 0, 40, .inl (fun _ => 0))), ((rr4 1), .inl (G 0, 40, .inl (fun _ => 0))), ((rr4 2), .inl (G 0, 40, .inl (fun _ => 0))), ((rr4 3), .inl (G 0, 40, .inl (fun _ => 0))), (q5, .inl (G 0, 20, .inl (fun _ => 0))), (q6, .inl (G 0, 20, .inl (fun _ => 0)))] H := hP
  have hD : va_D A [(h0, .inr (6, [.ref q1, .ref q2, .ref q3, .int 0, .int 0, .ref q5, .null])), (q1, .inl (G 0, 4, .inl (upd (upd (upd (upd (fun _ => 0) 0 (-1)) 1 (-1)) 2 (-1)) 3 (-1)))), (q2, .inl (G 0, 4, .inl (fun _ => 0))), (q3, .inl (G 4, 4, .inr (.inr (.inr (.inr (fun ir => if ir < 4 then some (rr4 ir) else none)))))), ((rr4 0), .inl (G 0, 40, .inl (fun _ => 0))), ((rr4 1), .inl (G 0, 40, .inl (fun _ => 0))), ((rr4 2), .inl (G 0, 40, .inl (fun _ => 0))), ((rr4 3), .inl (G 0, 40, .inl (fun _ => 0))), (q5, .inl (G 0, 20, .inl (fun _ => 0))), (q6, .inl (G 0, 20, .inl (fun _ => 0)))] := hD
  refine W.widen (k := 9) (n := 212) (by omega) (by omega) ?_
  refine va_putF (D := (dC, dI)) (ci := 6) (v := .ref q6) (ty := (.array .int)) (C := RX6) (T := TX6) (N := 7) hx hb hg inG6 tyX6 tyX6_ok nmX6 hown hK.1 hP hD hS 0 rfl rfl 6 (by decide) (hg _ wt_285) (fun _ h9 => h9) rfl hin rfl (by decide +kernel) rfl rfl (Nat.le_of_ble_eq_true rfl) dX6_init_58 (fun H locs hP hD hS => ?_)
  have hP : va_P (dC, dI) vwCl [(h0, .inr (6, [.ref q1, .ref q2, .ref q3, .int 0, .int 0, .ref q5, .ref q6])), (q1, .inl (G 0, 4, .inl (upd (upd (upd (upd (fun _ => 0) 0 (-1)) 1 (-1)) 2 (-1)) 3 (-1)))), (q2, .inl (G 0, 4, .inl (fun _ => 0))), (q3, .inl (G 4, 4, .inr (.inr (.inr (.inr (fun ir => if ir < 4 then some (rr4 ir) else none)))))), ((rr4 0), .inl (G 0, 40, .inl (fun _ => 0))), ((rr4 1), .inl (G 0, 40, .inl (fun _ => 0))), ((rr4 2), .inl (G 0, 40, .inl (fun _ => 0))), ((rr4 3), .inl (G 0, 40, .inl (fun _ => 0))), (q5, .inl (G 0, 20, .inl (fun _ => 0))), (q6, .inl (G 0, 20, .inl (fun _ => 0)))] H := hP
  have hD : va_D A [(h0, .inr (6, [.ref q1, .ref q2, .ref q3, .int 0, .int 0, .ref q5, .ref q6])), (q1, .inl (G 0, 4, .inl (upd (upd (upd (upd (fun _ => 0) 0 (-1)) 1 (-1)) 2 (-1)) 3 (-1)))), (q2, .inl (G 0, 4, .inl (fun _ => 0))), (q3, .inl (G 4, 4, .inr (.inr (.inr (.inr (fun ir => if ir < 4 then some (rr4 ir) else none)))))), ((rr4 0), .inl (G 0, 40, .inl (fun _ => 0))), ((rr4 1), .inl (G 0, 40, .inl (fun _ => 0))), ((rr4 2), .inl (G 0, 40, .inl (fun _ => 0))), ((rr4 3), .inl (G 0, 40, .inl (fun _ => 0))), (q5, .inl (G 0, 20, .inl (fun _ => 0))), (q6, .inl (G 0, 20, .inl (fun _ => 0)))] := hD
  have hP9 := hP.sub (ws' := [(h0, .inr (6, [.ref q1, .ref q2, .ref q3, .int 0, .int 0, .ref q5, .ref q6])), (q1, .inl (G 0, 4, .inl (upd (upd (upd (upd (fun _ => 0) 0 (-1)) 1 (-1)) 2 (-1)) 3 (-1)))), (q2, .inl (G 0, 4, .inl (fun _ => 0))), (q3, .inl (G 4, 4, .inr (.inr (.inr (.inr (fun ir => if ir < 4 then some (rr4 ir) else none)))))), (q5, .inl (G 0, 20, .inl (fun _ => 0))), (q6, .inl (G 0, 20, .inl (fun _ => 0))), ((rr4 0), .inl (G 0, 40, .inl (fun _ => 0))), ((rr4 1), .inl (G 0, 40, .inl (fun _ => 0))), ((rr4 2), .inl (G 0, 40, .inl (fun _ => 0))), ((rr4 3), .inl (G 0, 40, .inl (fun _ => 0)))]) [0, 1, 2, 3, 8, 9, 4, 5, 6, 7] rfl
  have hD9 := hD.sub (ws' := [(h0, .inr (6, [.ref q1, .ref q2, .ref q3, .int 0, .int 0, .ref q5, .ref q6])), (q1, .inl (G 0, 4, .inl (upd (upd (upd (upd (fun _ => 0) 0 (-1)) 1 (-1)) 2 (-1)) 3 (-1)))), (q2, .inl (G 0, 4, .inl (fun _ => 0))), (q3, .inl (G 4, 4, .inr (.inr (.inr (.inr (fun ir => if ir < 4 then some (rr4 ir) else none)))))), (q5, .inl (G 0, 20, .inl (fun _ => 0))), (q6, .inl (G 0, 20, .inl (fun _ => 0))), ((rr4 0), .inl (G 0, 40, .inl (fun _ => 0))), ((rr4 1), .inl (G 0, 40, .inl (fun _ => 0))), ((rr4 2), .inl (G 0, 40, .inl (fun _ => 0))), ((rr4 3), .inl (G 0, 40, .inl (fun _ => 0)))]) [0, 1, 2, 3, 8, 9, 4, 5, 6, 7] (by decide) rfl
  refine W.widen (k := 9) (n := 212) (by omega) (by omega) ?_
  exact W.vret hx hb hr (fun t ht hW => ⟨⟨((fun k => match k with | 0 => q1 | 1 => q2 | 2 => q3 | 3 => q5 | 4 => q6 | _ => 0), rr4), rfl, trivial, ⟨by rw [ht]; exact hP9, hD9⟩⟩, hS.F ht⟩) hS.2.2 dX6_init_61
