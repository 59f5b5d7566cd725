set_option maxHeartbeats 1000000 in
set_option maxRecDepth 100000 in
theorem k_X11_feedE (l : Launch) (dC : Nat → ClassId) (dI : Nat → Nat → Nat) (G : Nat → ClassId) (sz : Nat) (ax : Nat → Nat) (hi : adInj 129 ax) (T : Nat) (Y : Nat → Int32) (fa : Int32) (W0 : Nat → Int32) (W1 : Nat → Int32) (W2 : Nat → Int32) (N : Nat) (B : Nat) (N1 : Nat) (B1 : Nat) (N2 : Nat) (B2 : Nat) (K : Nat → Int32) (S : Nat) (M : Nat) (E : Nat → Int32) (Z : Nat → Int32) (v : Int64) : Met l yX11_feed (Cond.code yX11_feed cX11_feed 4 (some .int) :: GT) ({ frames := 0, cells := 0, slots := 0, locals := 0 } : Room) (PcI [.ref (ax 112), .long v] dC dI G (X11I dC dI G ax T Y fa W0 W1 W2 N B N1 B1 N2 B2 K S M E Z) sz) (va_Qi (fun (r : Int32) (_ : Unit) => r = if T + 8 ≤ 320 then nI (T + 8) else -3) (fun _ t => X11I dC dI G ax (if T + 8 ≤ 320 then T + 8 else T) (if T + 8 ≤ 320 then fdC Y T v else Y) fa W0 W1 W2 N B N1 B1 N2 B2 K S M E Z t.heap) (adX 112 129 ax sz)) 0 0 (adX 112 129 ax sz) := by
  refine Met.pick (fun a st hp => ?_)
  obtain ⟨e0, hsz, hI, hK⟩ := hp
  subst hsz
  have hI0 := hI
  unfold X11I at hI
  obtain ⟨p0, p1, p2, p3, p4, p5, p6, p7, p8, p9, p10, p11, p12, p13, p14, p15, p16, hX⟩ := hI
  unfold X11Pr at p0
  obtain ⟨zi112_4, zi112_5, zi112_6, zi112_7, zi112_8, zi112_9, zi112_13, zi112_14, zi112_15, zn112_16, zi112_17, zi112_18, zi112_34, p0j0, p0j1, p0j2, p0j3, p0j4, p0j5, p0j6, q112⟩ := p0
  unfold X11P10 at p3
  obtain ⟨p3j0, q115⟩ := p3
  refine ⟨_, _, _, c_X11_feedE l dC dI G _ (ax 112) (ax 113) N B (ax 114) (ax 115) T (ax 116) (ax 117) (ax 118) (ax 119) (ax 120) (ax 121) S (ax 122) M (ax 123) (ax 124) (ax 125) (ax 126) (ax 127) (ax 128) zi112_4 zi112_5 zi112_6 zi112_7 zi112_8 zi112_9 fa zi112_13 zi112_14 zi112_15 (nI zn112_16) zi112_17 zi112_18 zi112_34 v Y (by first | with_reducible assumption | assumption) (by first | with_reducible assumption | assumption) (by first | with_reducible assumption | assumption) (by first | with_reducible assumption | assumption) (by first | with_reducible assumption | assumption), ⟨e0, rfl, (vpc q112 (vpc q115 va_nilP)), hK, vD_ix hi [112, 115] (by rfl) (by decide) (by decide)⟩, ad_ix [112, 115] (by rfl) (by decide), fun o t hq => ?_⟩
  obtain ⟨⟨r, ⟨oT, otp⟩, ho, ⟨hr, hu⟩, hP1, -⟩, hF⟩ := hq
  have FR : ∀ lo hi' : Nat, hi' ≤ 129 → ([112, 115] : List Nat).all (fun x => decide (x < lo) || decide (hi' ≤ x)) = true → ∀ j : Nat, lo ≤ j → j < hi' → ax j < st.heap.size → t.heap[ax j]? = st.heap[ax j]? := fun lo hi' h1 h2 => fr_ix hi h1 hF.2 [112, 115] (by rfl) (by decide) h2
  have xT : (if T + 8 ≤ 320 then T + 8 else T) = oT := Eq.symm (by first | exact hu | exact hu.1 | exact hu.2 | exact hu.1.1 | exact hu.1.2 | exact hu.2.1.trans (txt_cf (by first | with_reducible assumption | assumption)) | exact hu.2.1.trans (txt_rf (by first | with_reducible assumption | assumption)) | exact hu.1.1.trans lmap_step | omega)
  subst xT
  have y115 : (if T + 8 ≤ 320 then fdC Y T v else Y) = otp := Eq.symm (by first | exact hu | exact hu.1 | exact hu.2 | exact hu.1.1 | exact hu.1.2 | exact hu.2.1.trans (txt_cf (by first | with_reducible assumption | assumption)) | exact hu.2.1.trans (txt_rf (by first | with_reducible assumption | assumption)) | exact hu.1.1.trans lmap_step | omega)
  subst y115
  have np0 : X11Pr dC dI G ax (if T + 8 ≤ 320 then T + 8 else T) fa N B S M t.heap := ⟨zi112_4, zi112_5, zi112_6, zi112_7, zi112_8, zi112_9, zi112_13, zi112_14, zi112_15, zn112_16, zi112_17, zi112_18, zi112_34, p0j0, p0j1, (by first | omega | exact hu | exact hu.1 | exact hu.1.1 | exact hu.1.2 | exact hu.2 | exact hu.1.1.1 | exact hu.1.1.2 | exact fd_nn (by first | with_reducible assumption | assumption) | (split at hu <;> omega) | (split <;> omega) | exact E_inv (by first | with_reducible assumption | assumption)), p0j3, p0j4, p0j5, p0j6, hP1 0 _ rfl⟩
  have np3 : X11P10 dC dI G ax (if T + 8 ≤ 320 then fdC Y T v else Y) t.heap := ⟨(by first | omega | exact hu | exact hu.1 | exact hu.1.1 | exact hu.1.2 | exact hu.2 | exact hu.1.1.1 | exact hu.1.1.2 | exact fd_nn (by first | with_reducible assumption | assumption) | (split at hu <;> omega) | (split <;> omega) | exact E_inv (by first | with_reducible assumption | assumption)), hP1 1 _ rfl⟩
  exact ⟨⟨r, (), ho, hr, ⟨np0, p1.kept (FR 113 114 (by decide) (by decide)), p2.kept (FR 114 115 (by decide) (by decide)), np3, p4.kept (FR 116 117 (by decide) (by decide)), p5.kept (FR 117 118 (by decide) (by decide)), p6.kept (FR 118 119 (by decide) (by decide)), p7.kept (FR 119 120 (by decide) (by decide)), p8.kept (FR 120 121 (by decide) (by decide)), p9.kept (FR 121 122 (by decide) (by decide)), p10.kept (FR 122 123 (by decide) (by decide)), p11.kept (FR 123 124 (by decide) (by decide)), p12.kept (FR 124 125 (by decide) (by decide)), p13.kept (FR 125 126 (by decide) (by decide)), p14.kept (FR 126 127 (by decide) (by decide)), p15.kept (FR 127 128 (by decide) (by decide)), p16.kept (FR 128 129 (by decide) (by decide)), hX⟩⟩, hF.wide (ad_ix [112, 115] (by rfl) (by decide))⟩

set_option maxHeartbeats 1000000 in
set_option maxRecDepth 100000 in
theorem k_X11_end (l : Launch) (dC : Nat → ClassId) (dI : Nat → Nat → Nat) (G : Nat → ClassId) (sz : Nat) (ax : Nat → Nat) (hi : adInj 129 ax) (T : Nat) (Y : Nat → Int32) (fa : Int32) (W0 : Nat → Int32) (W1 : Nat → Int32) (W2 : Nat → Int32) (N : Nat) (B : Nat) (N1 : Nat) (B1 : Nat) (N2 : Nat) (B2 : Nat) (K : Nat → Int32) (S : Nat) (M : Nat) (E : Nat → Int32) (Z : Nat → Int32) (n : Int32) : Met l yX11_end (Cond.code yX11_end cX11_end 3 (some .int) :: GT) ({ frames := 1, cells := 0, slots := 0, locals := 25 } : Room) (PcI [.ref (ax 112), .int n] dC dI G (X11I dC dI G ax T Y fa W0 W1 W2 N B N1 B1 N2 B2 K S M E Z) sz) (va_Qi (fun (r : Int32) (_ : Unit) => r = if 0 ≤ n.toInt ∧ n.toInt ≤ ((T : Nat) : Int) then nI T else -1) (fun _ t => X11I dC dI G ax (if 0 ≤ n.toInt ∧ n.toInt ≤ ((T : Nat) : Int) then n.toNatClampNeg else T) Y fa W0 W1 W2 N B N1 B1 N2 B2 K S M E Z t.heap) (adX 112 129 ax sz)) 0 0 (adX 112 129 ax sz) := by
  refine Met.pick (fun a st hp => ?_)
  obtain ⟨e0, hsz, hI, hK⟩ := hp
  subst hsz
  have hI0 := hI
  unfold X11I at hI
  obtain ⟨p0, p1, p2, p3, p4, p5, p6, p7, p8, p9, p10, p11, p12, p13, p14, p15, p16, hX⟩ := hI
  unfold X11Pr at p0
  obtain ⟨zi112_4, zi112_5, zi112_6, zi112_7, zi112_8, zi112_9, zi112_13, zi112_14, zi112_15, zn112_16, zi112_17, zi112_18, zi112_34, p0j0, p0j1, p0j2, p0j3, p0j4, p0j5, p0j6, q112⟩ := p0
  refine ⟨_, _, _, c_X11_end l dC dI G _ (ax 112) (ax 113) N B (ax 114) (ax 115) T (ax 116) (ax 117) (ax 118) (ax 119) (ax 120) (ax 121) S (ax 122) M (ax 123) (ax 124) (ax 125) (ax 126) (ax 127) (ax 128) n zi112_4 zi112_5 zi112_6 zi112_7 zi112_8 zi112_9 fa zi112_13 zi112_14 zi112_15 (nI zn112_16) zi112_17 zi112_18 zi112_34 (by first | with_reducible assumption | assumption) (by first | with_reducible assumption | assumption) (by first | with_reducible assumption | assumption) (by first | with_reducible assumption | assumption) (by first | with_reducible assumption | assumption), ⟨e0, rfl, (vpc q112 va_nilP), hK, vD_ix hi [112] (by rfl) (by decide) (by decide)⟩, ad_ix [112] (by rfl) (by decide), fun o t hq => ?_⟩
  obtain ⟨⟨r, oT, ho, ⟨hr, hu⟩, hP1, -⟩, hF⟩ := hq
  have FR : ∀ lo hi' : Nat, hi' ≤ 129 → ([112] : List Nat).all (fun x => decide (x < lo) || decide (hi' ≤ x)) = true → ∀ j : Nat, lo ≤ j → j < hi' → ax j < st.heap.size → t.heap[ax j]? = st.heap[ax j]? := fun lo hi' h1 h2 => fr_ix hi h1 hF.2 [112] (by rfl) (by decide) h2
  have xT : (if 0 ≤ n.toInt ∧ n.toInt ≤ ((T : Nat) : Int) then n.toNatClampNeg else T) = oT := Eq.symm (by first | exact hu | exact hu.1 | exact hu.2 | exact hu.1.1 | exact hu.1.2 | exact hu.2.1.trans (txt_cf (by first | with_reducible assumption | assumption)) | exact hu.2.1.trans (txt_rf (by first | with_reducible assumption | assumption)) | exact hu.1.1.trans lmap_step | omega)
  subst xT
  have np0 : X11Pr dC dI G ax (if 0 ≤ n.toInt ∧ n.toInt ≤ ((T : Nat) : Int) then n.toNatClampNeg else T) fa N B S M t.heap := ⟨zi112_4, zi112_5, zi112_6, zi112_7, zi112_8, zi112_9, zi112_13, zi112_14, zi112_15, zn112_16, zi112_17, zi112_18, zi112_34, p0j0, p0j1, (by first | omega | exact hu | exact hu.1 | exact hu.1.1 | exact hu.1.2 | exact hu.2 | exact hu.1.1.1 | exact hu.1.1.2 | exact fd_nn (by first | with_reducible assumption | assumption) | (split at hu <;> omega) | (split <;> omega) | exact E_inv (by first | with_reducible assumption | assumption)), p0j3, p0j4, p0j5, p0j6, hP1 0 _ rfl⟩
  exact ⟨⟨r, (), ho, hr, ⟨np0, p1.kept (FR 113 114 (by decide) (by decide)), p2.kept (FR 114 115 (by decide) (by decide)), p3.kept (FR 115 116 (by decide) (by decide)), p4.kept (FR 116 117 (by decide) (by decide)), p5.kept (FR 117 118 (by decide) (by decide)), p6.kept (FR 118 119 (by decide) (by decide)), p7.kept (FR 119 120 (by decide) (by decide)), p8.kept (FR 120 121 (by decide) (by decide)), p9.kept (FR 121 122 (by decide) (by decide)), p10.kept (FR 122 123 (by decide) (by decide)), p11.kept (FR 123 124 (by decide) (by decide)), p12.kept (FR 124 125 (by decide) (by decide)), p13.kept (FR 125 126 (by decide) (by decide)), p14.kept (FR 126 127 (by decide) (by decide)), p15.kept (FR 127 128 (by decide) (by decide)), p16.kept (FR 128 129 (by decide) (by decide)), hX⟩⟩, hF.wide (ad_ix [112] (by rfl) (by decide))⟩

set_option maxHeartbeats 1000000 in
set_option maxRecDepth 100000 in
theorem k_X11_textE (l : Launch) (dC : Nat → ClassId) (dI : Nat → Nat → Nat) (G : Nat → ClassId) (sz : Nat) (ax : Nat → Nat) (hi : adInj 129 ax) (T : Nat) (Y : Nat → Int32) (fa : Int32) (W0 : Nat → Int32) (W1 : Nat → Int32) (W2 : Nat → Int32) (N : Nat) (B : Nat) (N1 : Nat) (B1 : Nat) (N2 : Nat) (B2 : Nat) (K : Nat → Int32) (S : Nat) (M : Nat) (E : Nat → Int32) (Z : Nat → Int32) : Met l yX11_text (Cond.code yX11_text cX11_text 3 (some .int) :: GT) ({ frames := 5, cells := 0, slots := 0, locals := 114 } : Room) (PcI [.ref (ax 112)] dC dI G (X11I dC dI G ax T Y fa W0 W1 W2 N B N1 B1 N2 B2 K S M E Z) sz) (va_Qi (fun (r : Int32) (_ : Unit) => r = txA Y T) (fun _ t => X11I dC dI G ax 0 Y (txF Y T) (txW Y T W0) W1 W2 (txN Y T N) (txB Y T B) N1 B1 N2 B2 (txK Y T K) (txS Y T S) (txS Y T M) E Z t.heap) (adX 112 129 ax sz)) 0 0 (adX 112 129 ax sz) := by
  refine Met.pick (fun a st hp => ?_)
  obtain ⟨e0, hsz, hI, hK⟩ := hp
  subst hsz
  have hI0 := hI
  unfold X11I at hI
  obtain ⟨p0, p1, p2, p3, p4, p5, p6, p7, p8, p9, p10, p11, p12, p13, p14, p15, p16, hX⟩ := hI
  unfold X11Pr at p0
  obtain ⟨zi112_4, zi112_5, zi112_6, zi112_7, zi112_8, zi112_9, zi112_13, zi112_14, zi112_15, zn112_16, zi112_17, zi112_18, zi112_34, p0j0, p0j1, p0j2, p0j3, p0j4, p0j5, p0j6, q112⟩ := p0
  unfold X11P0 at p1
  obtain ⟨zf113, p1j0, p1j1, p1j2, p1j3, p1j4, p1j5, p1j6, p1j7, q113⟩ := p1
  unfold X11P3 at p2
  obtain ⟨zf114, q114⟩ := p2
  unfold X11P10 at p3
  obtain ⟨p3j0, q115⟩ := p3
  unfold X11P19 at p4
  obtain ⟨zf116, p4j0, q116⟩ := p4
  unfold X11P20 at p5
  obtain ⟨zf117, p5j0, q117⟩ := p5
  unfold X11P30 at p13
  have q125 := p13
  refine ⟨_, _, _, c_X11_textE l dC dI G _ (ax 112) (ax 113) N B (ax 114) (ax 115) T zn112_16 (ax 116) (ax 117) (ax 118) (ax 119) (ax 120) (ax 121) S (ax 122) M (ax 123) (ax 124) (ax 125) (ax 126) (ax 127) (ax 128) zi112_4 zi112_5 zi112_6 zi112_7 zi112_8 zi112_9 fa zi112_13 zi112_14 zi112_15 zi112_17 zi112_18 zi112_34 Y zf116 zf117 zf114 zf113 K (by first | with_reducible assumption | assumption) (by first | with_reducible assumption | assumption) (by first | with_reducible assumption | assumption) (by first | with_reducible assumption | assumption) (by first | with_reducible assumption | assumption) (by first | with_reducible assumption | assumption) (by first | with_reducible assumption | assumption) (by first | with_reducible assumption | assumption) (by first | with_reducible assumption | assumption) (by first | with_reducible assumption | assumption) (by first | with_reducible assumption | assumption), ⟨e0, rfl, (vpc q112 (vpc q115 (vpc q116 (vpc q117 (vpc q114 (vpc q113 (vpc q125 va_nilP))))))), hK, vD_ix hi [112, 115, 116, 117, 114, 113, 125] (by rfl) (by decide) (by decide)⟩, ad_ix [112, 115, 116, 117, 114, 113, 125] (by rfl) (by decide), fun o t hq => ?_⟩
  obtain ⟨⟨r, ⟨obr, oba, osp, ohe, otk, ova, ors, orb, ohs, oca, oxs, oxb, ofa, oT, oN, oB, oS, oM, orp, ost, oik⟩, ho, ⟨hr, hu⟩, hP1, -⟩, hF⟩ := hq
  have FR : ∀ lo hi' : Nat, hi' ≤ 129 → ([112, 115, 116, 117, 114, 113, 125] : List Nat).all (fun x => decide (x < lo) || decide (hi' ≤ x)) = true → ∀ j : Nat, lo ≤ j → j < hi' → ax j < st.heap.size → t.heap[ax j]? = st.heap[ax j]? := fun lo hi' h1 h2 => fr_ix hi h1 hF.2 [112, 115, 116, 117, 114, 113, 125] (by rfl) (by decide) h2
  have xT : 0 = oT := Eq.symm (by first | exact hu | exact hu.1 | exact hu.2 | exact hu.1.1 | exact hu.1.2 | exact hu.2.1.trans (txt_cf (by first | with_reducible assumption | assumption)) | exact hu.2.1.trans (txt_rf (by first | with_reducible assumption | assumption)) | exact hu.1.1.trans lmap_step | omega)
  subst xT
  have xfa : (txF Y T) = ofa := Eq.symm (hu.2.1.trans (txt_rf (by first | with_reducible assumption | assumption)))
  subst xfa
  have xN : (txN Y T N) = oN := Eq.symm (hu.2.2.1.trans (txt_rN (by first | with_reducible assumption | assumption)))
  subst xN
  have xB : (txB Y T B) = oB := Eq.symm (hu.2.2.2.1.trans (txt_rB (by first | with_reducible assumption | assumption)))
  subst xB
  have xS : (txS Y T S) = oS := Eq.symm (hu.2.2.2.2.1.trans (txt_r1 (by first | with_reducible assumption | assumption)))
  subst xS
  have xM : (txS Y T M) = oM := Eq.symm (hu.2.2.2.2.2.1.trans (txt_r1 (by first | with_reducible assumption | assumption)))
  subst xM
  have y125 : (txK Y T K) = oik := Eq.symm (hu.2.2.2.2.2.2.2.trans (txt_r1 (by first | with_reducible assumption | assumption)))
  subst y125
  have hT := hu.2
  replace hu := hu.1
  have np0 : X11Pr dC dI G ax 0 (txF Y T) (txN Y T N) (txB Y T B) (txS Y T S) (txS Y T M) t.heap := ⟨ors, orb, ohs, oca, oxs, oxb, obr, oba, osp, ohe, otk, ova, zi112_34, (by first | omega | exact hu | exact hu.1 | exact hu.1.1 | exact hu.1.2 | exact hu.2 | exact hu.1.1.1 | exact hu.1.1.2 | exact fd_nn (by first | with_reducible assumption | assumption) | (split at hu <;> omega) | (split <;> omega) | exact E_inv (by first | with_reducible assumption | assumption)), (by first | omega | exact hu | exact hu.1 | exact hu.1.1 | exact hu.1.2 | exact hu.2 | exact hu.1.1.1 | exact hu.1.1.2 | exact fd_nn (by first | with_reducible assumption | assumption) | (split at hu <;> omega) | (split <;> omega) | exact E_inv (by first | with_reducible assumption | assumption)), (by first | omega | exact hu | exact hu.1 | exact hu.1.1 | exact hu.1.2 | exact hu.2 | exact hu.1.1.1 | exact hu.1.1.2 | exact fd_nn (by first | with_reducible assumption | assumption) | (split at hu <;> omega) | (split <;> omega) | exact E_inv (by first | with_reducible assumption | assumption)), (by first | omega | exact hu | exact hu.1 | exact hu.1.1 | exact hu.1.2 | exact hu.2 | exact hu.1.1.1 | exact hu.1.1.2 | exact fd_nn (by first | with_reducible assumption | assumption) | (split at hu <;> omega) | (split <;> omega) | exact E_inv (by first | with_reducible assumption | assumption)), (by first | omega | exact hu | exact hu.1 | exact hu.1.1 | exact hu.1.2 | exact hu.2 | exact hu.1.1.1 | exact hu.1.1.2 | exact fd_nn (by first | with_reducible assumption | assumption) | (split at hu <;> omega) | (split <;> omega) | exact E_inv (by first | with_reducible assumption | assumption)), (by first | omega | exact hu | exact hu.1 | exact hu.1.1 | exact hu.1.2 | exact hu.2 | exact hu.1.1.1 | exact hu.1.1.2 | exact fd_nn (by first | with_reducible assumption | assumption) | (split at hu <;> omega) | (split <;> omega) | exact E_inv (by first | with_reducible assumption | assumption)), (by first | omega | exact hu | exact hu.1 | exact hu.1.1 | exact hu.1.2 | exact hu.2 | exact hu.1.1.1 | exact hu.1.1.2 | exact fd_nn (by first | with_reducible assumption | assumption) | (split at hu <;> omega) | (split <;> omega) | exact E_inv (by first | with_reducible assumption | assumption)), hP1 0 _ rfl⟩
  have np1 : X11P0 dC dI G ax (txW Y T W0) W1 W2 (txN Y T N) (txB Y T B) N1 B1 N2 B2 t.heap := ⟨ost, p1j0, p1j1, p1j2, p1j3, (by rw [hT.2.2.2.2.2.1]; exact SR.text (by first | with_reducible assumption | assumption) (by first | with_reducible assumption | assumption)), (by rw [hT.2.2.2.2.2.1]; exact SR.texto (by first | with_reducible assumption | assumption) (by decide)), (by rw [hT.2.2.2.2.2.1]; exact SR.texto (by first | with_reducible assumption | assumption) (by decide)), (by first | omega | exact hu | exact hu.1 | exact hu.1.1 | exact hu.1.2 | exact hu.2 | exact hu.1.1.1 | exact hu.1.1.2 | exact fd_nn (by first | with_reducible assumption | assumption) | (split at hu <;> omega) | (split <;> omega) | exact E_inv (by first | with_reducible assumption | assumption)), hP1 5 _ rfl⟩
  have np2 : X11P3 dC dI G ax t.heap := ⟨orp, hP1 4 _ rfl⟩
  have np3 : X11P10 dC dI G ax Y t.heap := ⟨p3j0, hP1 1 _ rfl⟩
  have np4 : X11P19 dC dI G ax t.heap := ⟨zf116, p4j0, hP1 2 _ rfl⟩
  have np5 : X11P20 dC dI G ax t.heap := ⟨zf117, p5j0, hP1 3 _ rfl⟩
  have np13 : X11P30 dC dI G ax (txK Y T K) t.heap := hP1 6 _ rfl
  exact ⟨⟨r, (), ho, hr.trans (txt_ra (by first | with_reducible assumption | assumption)), ⟨np0, np1, np2, np3, np4, np5, p6.kept (FR 118 119 (by decide) (by decide)), p7.kept (FR 119 120 (by decide) (by decide)), p8.kept (FR 120 121 (by decide) (by decide)), p9.kept (FR 121 122 (by decide) (by decide)), p10.kept (FR 122 123 (by decide) (by decide)), p11.kept (FR 123 124 (by decide) (by decide)), p12.kept (FR 124 125 (by decide) (by decide)), np13, p14.kept (FR 126 127 (by decide) (by decide)), p15.kept (FR 127 128 (by decide) (by decide)), p16.kept (FR 128 129 (by decide) (by decide)), tx_X hX⟩⟩, hF.wide (ad_ix [112, 115, 116, 117, 114, 113, 125] (by rfl) (by decide))⟩

set_option maxHeartbeats 1000000 in
set_option maxRecDepth 100000 in
theorem k_X11_faultE (l : Launch) (dC : Nat → ClassId) (dI : Nat → Nat → Nat) (G : Nat → ClassId) (sz : Nat) (ax : Nat → Nat) (hi : adInj 129 ax) (T : Nat) (Y : Nat → Int32) (fa : Int32) (W0 : Nat → Int32) (W1 : Nat → Int32) (W2 : Nat → Int32) (N : Nat) (B : Nat) (N1 : Nat) (B1 : Nat) (N2 : Nat) (B2 : Nat) (K : Nat → Int32) (S : Nat) (M : Nat) (E : Nat → Int32) (Z : Nat → Int32) : Met l yX11_fault (Cond.code yX11_fault cX11_fault 1 (some .int) :: GT) ({ frames := 0, cells := 0, slots := 0, locals := 0 } : Room) (PcI [.ref (ax 112)] dC dI G (X11I dC dI G ax T Y fa W0 W1 W2 N B N1 B1 N2 B2 K S M E Z) sz) (va_Qi (fun (r : Int32) (_ : Unit) => r = fa) (fun _ t => X11I dC dI G ax T Y fa W0 W1 W2 N B N1 B1 N2 B2 K S M E Z t.heap) (adX 112 129 ax sz)) 0 0 (adX 112 129 ax sz) := by
  refine Met.pick (fun a st hp => ?_)
  obtain ⟨e0, hsz, hI, hK⟩ := hp
  subst hsz
  have hI0 := hI
  unfold X11I at hI
  obtain ⟨p0, p1, p2, p3, p4, p5, p6, p7, p8, p9, p10, p11, p12, p13, p14, p15, p16, hX⟩ := hI
  unfold X11Pr at p0
  obtain ⟨zi112_4, zi112_5, zi112_6, zi112_7, zi112_8, zi112_9, zi112_13, zi112_14, zi112_15, zn112_16, zi112_17, zi112_18, zi112_34, p0j0, p0j1, p0j2, p0j3, p0j4, p0j5, p0j6, q112⟩ := p0
  refine ⟨_, _, _, c_X11_faultE l dC dI G _ (ax 112) (ax 113) N B (ax 114) (ax 115) T (ax 116) (ax 117) (ax 118) (ax 119) (ax 120) (ax 121) S (ax 122) M (ax 123) (ax 124) (ax 125) (ax 126) (ax 127) (ax 128) zi112_4 zi112_5 zi112_6 zi112_7 zi112_8 zi112_9 fa zi112_13 zi112_14 zi112_15 (nI zn112_16) zi112_17 zi112_18 zi112_34 (by first | with_reducible assumption | assumption) (by first | with_reducible assumption | assumption) (by first | with_reducible assumption | assumption) (by first | with_reducible assumption | assumption) (by first | with_reducible assumption | assumption), ⟨e0, rfl, (vpc q112 va_nilP), hK⟩, fun q h => Or.inr h, fun o t hq => ?_⟩
  obtain ⟨⟨r, u, ho, ⟨hr, hu⟩, -⟩, hF⟩ := hq
  exact ⟨⟨r, (), ho, hr, hI0.kept (fun j _ _ h => hF.2 _ h (Nat.not_le.mpr h))⟩, hF.wide (fun q h => Or.inr h)⟩

set_option maxHeartbeats 1000000 in
set_option maxRecDepth 100000 in
theorem k_X11_ruleE (l : Launch) (dC : Nat → ClassId) (dI : Nat → Nat → Nat) (G : Nat → ClassId) (sz : Nat) (ax : Nat → Nat) (hi : adInj 129 ax) (T : Nat) (Y : Nat → Int32) (fa : Int32) (W0 : Nat → Int32) (W1 : Nat → Int32) (W2 : Nat → Int32) (N : Nat) (B : Nat) (N1 : Nat) (B1 : Nat) (N2 : Nat) (B2 : Nat) (K : Nat → Int32) (S : Nat) (M : Nat) (E : Nat → Int32) (Z : Nat → Int32) (what : Int32) : Met l yX11_rule (Cond.code yX11_rule cX11_rule 2 (some .int) :: GT) ({ frames := 1, cells := 0, slots := 0, locals := 20 } : Room) (PcI [.ref (ax 112), .int what] dC dI G (X11I dC dI G ax T Y fa W0 W1 W2 N B N1 B1 N2 B2 K S M E Z) sz) (va_Qi (fun (r : Int32) (_ : Unit) => r = ruF what N B (W0 48 + 5)) (fun _ t => X11I dC dI G ax T Y fa W0 W1 W2 N B N1 B1 N2 B2 K S M E Z t.heap) (adX 112 129 ax sz)) 0 0 (adX 112 129 ax sz) := by
  refine Met.pick (fun a st hp => ?_)
  obtain ⟨e0, hsz, hI, hK⟩ := hp
  subst hsz
  have hI0 := hI
  unfold X11I at hI
  obtain ⟨p0, p1, p2, p3, p4, p5, p6, p7, p8, p9, p10, p11, p12, p13, p14, p15, p16, hX⟩ := hI
  unfold X11Pr at p0
  obtain ⟨zi112_4, zi112_5, zi112_6, zi112_7, zi112_8, zi112_9, zi112_13, zi112_14, zi112_15, zn112_16, zi112_17, zi112_18, zi112_34, p0j0, p0j1, p0j2, p0j3, p0j4, p0j5, p0j6, q112⟩ := p0
  unfold X11P0 at p1
  obtain ⟨zf113, p1j0, p1j1, p1j2, p1j3, p1j4, p1j5, p1j6, p1j7, q113⟩ := p1
  refine ⟨_, _, _, c_X11_ruleE l dC dI G _ (ax 112) (ax 113) N B (ax 114) (ax 115) T (ax 116) (ax 117) (ax 118) (ax 119) (ax 120) (ax 121) S (ax 122) M (ax 123) (ax 124) (ax 125) (ax 126) (ax 127) (ax 128) what zi112_4 zi112_5 zi112_6 zi112_7 zi112_8 zi112_9 fa zi112_13 zi112_14 zi112_15 (nI zn112_16) zi112_17 zi112_18 zi112_34 zf113 (by first | with_reducible assumption | assumption) (by first | with_reducible assumption | assumption) (by first | with_reducible assumption | assumption) (by first | with_reducible assumption | assumption) (by first | with_reducible assumption | assumption) (by first | with_reducible assumption | assumption), ⟨e0, rfl, (vpc q112 (vpc q113 va_nilP)), hK⟩, fun q h => Or.inr h, fun o t hq => ?_⟩
  obtain ⟨⟨r, u, ho, ⟨hr, hu⟩, -⟩, hF⟩ := hq
  exact ⟨⟨r, (), ho, hr.trans (ru_r (by first | with_reducible assumption | assumption)), hI0.kept (fun j _ _ h => hF.2 _ h (Nat.not_le.mpr h))⟩, hF.wide (fun q h => Or.inr h)⟩

set_option maxHeartbeats 1000000 in
set_option maxRecDepth 100000 in
theorem k_X11_stretch (l : Launch) (dC : Nat → ClassId) (dI : Nat → Nat → Nat) (G : Nat → ClassId) (sz : Nat) (ax : Nat → Nat) (hi : adInj 129 ax) (T : Nat) (Y : Nat → Int32) (fa : Int32) (W0 : Nat → Int32) (W1 : Nat → Int32) (W2 : Nat → Int32) (N : Nat) (B : Nat) (N1 : Nat) (B1 : Nat) (N2 : Nat) (B2 : Nat) (K : Nat → Int32) (S : Nat) (M : Nat) (E : Nat → Int32) (Z : Nat → Int32) (i : Int32) (what : Int32) : Met l yX11_stretch (Cond.code yX11_stretch cX11_stretch 3 (some .int) :: GT) ({ frames := 2, cells := 0, slots := 0, locals := 46 } : Room) (PcI [.ref (ax 112), .int i, .int what] dC dI G (X11I dC dI G ax T Y fa W0 W1 W2 N B N1 B1 N2 B2 K S M E Z) sz) (va_Qi (fun (r : Int32) (_ : Unit) => True) (fun _ t => X11I dC dI G ax T Y fa W0 W1 W2 N B N1 B1 N2 B2 K S M E Z t.heap) (adX 112 129 ax sz)) 0 0 (adX 112 129 ax sz) := by
  refine Met.pick (fun a st hp => ?_)
  obtain ⟨e0, hsz, hI, hK⟩ := hp
  subst hsz
  have hI0 := hI
  unfold X11I at hI
  obtain ⟨p0, p1, p2, p3, p4, p5, p6, p7, p8, p9, p10, p11, p12, p13, p14, p15, p16, hX⟩ := hI
  unfold X11Pr at p0
  obtain ⟨zi112_4, zi112_5, zi112_6, zi112_7, zi112_8, zi112_9, zi112_13, zi112_14, zi112_15, zn112_16, zi112_17, zi112_18, zi112_34, p0j0, p0j1, p0j2, p0j3, p0j4, p0j5, p0j6, q112⟩ := p0
  unfold X11P0 at p1
  obtain ⟨zf113, p1j0, p1j1, p1j2, p1j3, p1j4, p1j5, p1j6, p1j7, q113⟩ := p1
  refine ⟨_, _, _, c_X11_stretch l dC dI G _ (ax 112) (ax 113) N B (ax 114) (ax 115) T (ax 116) (ax 117) (ax 118) (ax 119) (ax 120) (ax 121) S (ax 122) M (ax 123) (ax 124) (ax 125) (ax 126) (ax 127) (ax 128) i what zi112_4 zi112_5 zi112_6 zi112_7 zi112_8 zi112_9 fa zi112_13 zi112_14 zi112_15 (nI zn112_16) zi112_17 zi112_18 zi112_34 zf113 (by first | with_reducible assumption | assumption) (by first | with_reducible assumption | assumption) (by first | with_reducible assumption | assumption) (by first | with_reducible assumption | assumption) (by first | with_reducible assumption | assumption), ⟨e0, rfl, (vpc q112 (vpc q113 va_nilP)), hK⟩, fun q h => Or.inr h, fun o t hq => ?_⟩
  obtain ⟨⟨r, u, ho, ⟨hr, hu⟩, -⟩, hF⟩ := hq
  exact ⟨⟨r, (), ho, trivial, hI0.kept (fun j _ _ h => hF.2 _ h (Nat.not_le.mpr h))⟩, hF.wide (fun q h => Or.inr h)⟩

set_option maxHeartbeats 1000000 in
set_option maxRecDepth 100000 in
theorem k_X11_bearerE (l : Launch) (dC : Nat → ClassId) (dI : Nat → Nat → Nat) (G : Nat → ClassId) (sz : Nat) (ax : Nat → Nat) (hi : adInj 129 ax) (T : Nat) (Y : Nat → Int32) (fa : Int32) (W0 : Nat → Int32) (W1 : Nat → Int32) (W2 : Nat → Int32) (N : Nat) (B : Nat) (N1 : Nat) (B1 : Nat) (N2 : Nat) (B2 : Nat) (K : Nat → Int32) (S : Nat) (M : Nat) (E : Nat → Int32) (Z : Nat → Int32) (i : Int32) (what : Int32) : Met l yX11_bearer (Cond.code yX11_bearer cX11_bearer 3 (some .int) :: GT) ({ frames := 2, cells := 0, slots := 0, locals := 46 } : Room) (PcI [.ref (ax 112), .int i, .int what] dC dI G (X11I dC dI G ax T Y fa W0 W1 W2 N B N1 B1 N2 B2 K S M E Z) sz) (va_Qi (fun (r : Int32) (_ : Unit) => r = if (0 ≤ i.toInt ∧ i.toInt < ((B : Nat) : Int)) then beF what (W0 (20 + 3 * i.toNatClampNeg)) (W0 (20 + 3 * i.toNatClampNeg + 1)) (W0 (20 + 3 * i.toNatClampNeg + 2)) else -1) (fun _ t => X11I dC dI G ax T Y fa W0 W1 W2 N B N1 B1 N2 B2 K S M E Z t.heap) (adX 112 129 ax sz)) 0 0 (adX 112 129 ax sz) := by
  refine Met.pick (fun a st hp => ?_)
  obtain ⟨e0, hsz, hI, hK⟩ := hp
  subst hsz
  have hI0 := hI
  unfold X11I at hI
  obtain ⟨p0, p1, p2, p3, p4, p5, p6, p7, p8, p9, p10, p11, p12, p13, p14, p15, p16, hX⟩ := hI
  unfold X11Pr at p0
  obtain ⟨zi112_4, zi112_5, zi112_6, zi112_7, zi112_8, zi112_9, zi112_13, zi112_14, zi112_15, zn112_16, zi112_17, zi112_18, zi112_34, p0j0, p0j1, p0j2, p0j3, p0j4, p0j5, p0j6, q112⟩ := p0
  unfold X11P0 at p1
  obtain ⟨zf113, p1j0, p1j1, p1j2, p1j3, p1j4, p1j5, p1j6, p1j7, q113⟩ := p1
  refine ⟨_, _, _, c_X11_bearerE l dC dI G _ (ax 112) (ax 113) N B (ax 114) (ax 115) T (ax 116) (ax 117) (ax 118) (ax 119) (ax 120) (ax 121) S (ax 122) M (ax 123) (ax 124) (ax 125) (ax 126) (ax 127) (ax 128) i what zi112_4 zi112_5 zi112_6 zi112_7 zi112_8 zi112_9 fa zi112_13 zi112_14 zi112_15 (nI zn112_16) zi112_17 zi112_18 zi112_34 zf113 (by first | with_reducible assumption | assumption) (by first | with_reducible assumption | assumption) (by first | with_reducible assumption | assumption) (by first | with_reducible assumption | assumption) (by first | with_reducible assumption | assumption), ⟨e0, rfl, (vpc q112 (vpc q113 va_nilP)), hK⟩, fun q h => Or.inr h, fun o t hq => ?_⟩
  obtain ⟨⟨r, u, ho, ⟨hr, hu⟩, -⟩, hF⟩ := hq
  exact ⟨⟨r, (), ho, hr.trans (be_r (by first | with_reducible assumption | assumption)), hI0.kept (fun j _ _ h => hF.2 _ h (Nat.not_le.mpr h))⟩, hF.wide (fun q h => Or.inr h)⟩

set_option maxHeartbeats 1000000 in
set_option maxRecDepth 100000 in
theorem k_X11_startE (l : Launch) (dC : Nat → ClassId) (dI : Nat → Nat → Nat) (G : Nat → ClassId) (sz : Nat) (ax : Nat → Nat) (hi : adInj 129 ax) (T : Nat) (Y : Nat → Int32) (fa : Int32) (W0 : Nat → Int32) (W1 : Nat → Int32) (W2 : Nat → Int32) (N : Nat) (B : Nat) (N1 : Nat) (B1 : Nat) (N2 : Nat) (B2 : Nat) (K : Nat → Int32) (S : Nat) (M : Nat) (E : Nat → Int32) (Z : Nat → Int32) (v : Int32) : Met l yX11_start (Cond.code yX11_start cX11_start 2 (some .int) :: GT) ({ frames := 1, cells := 0, slots := 0, locals := 25 } : Room) (PcI [.ref (ax 112), .int v] dC dI G (X11I dC dI G ax T Y fa W0 W1 W2 N B N1 B1 N2 B2 K S M E Z) sz) (va_Qi (fun (r : Int32) (_ : Unit) => r = if (1 ≤ v.toInt ∧ v.toInt ≤ 9) then W0 48 + 5 else -1) (fun _ t => X11I dC dI G ax T Y fa (if (1 ≤ v.toInt ∧ v.toInt ≤ 9) then upd W0 48 (v - 5) else W0) W1 W2 N B N1 B1 N2 B2 K S M E Z t.heap) (adX 112 129 ax sz)) 0 0 (adX 112 129 ax sz) := by
  refine Met.pick (fun a st hp => ?_)
  obtain ⟨e0, hsz, hI, hK⟩ := hp
  subst hsz
  have hI0 := hI
  unfold X11I at hI
  obtain ⟨p0, p1, p2, p3, p4, p5, p6, p7, p8, p9, p10, p11, p12, p13, p14, p15, p16, hX⟩ := hI
  unfold X11Pr at p0
  obtain ⟨zi112_4, zi112_5, zi112_6, zi112_7, zi112_8, zi112_9, zi112_13, zi112_14, zi112_15, zn112_16, zi112_17, zi112_18, zi112_34, p0j0, p0j1, p0j2, p0j3, p0j4, p0j5, p0j6, q112⟩ := p0
  unfold X11P0 at p1
  obtain ⟨zf113, p1j0, p1j1, p1j2, p1j3, p1j4, p1j5, p1j6, p1j7, q113⟩ := p1
  refine ⟨_, _, _, c_X11_startE l dC dI G _ (ax 112) (ax 113) N B (ax 114) (ax 115) T (ax 116) (ax 117) (ax 118) (ax 119) (ax 120) (ax 121) S (ax 122) M (ax 123) (ax 124) (ax 125) (ax 126) (ax 127) (ax 128) v zi112_4 zi112_5 zi112_6 zi112_7 zi112_8 zi112_9 fa zi112_13 zi112_14 zi112_15 (nI zn112_16) zi112_17 zi112_18 zi112_34 zf113 (by first | with_reducible assumption | assumption) (by first | with_reducible assumption | assumption) (by first | with_reducible assumption | assumption) (by first | with_reducible assumption | assumption) (by first | with_reducible assumption | assumption) (by first | with_reducible assumption | assumption), ⟨e0, rfl, (vpc q112 (vpc q113 va_nilP)), hK, vD_ix hi [112, 113] (by rfl) (by decide) (by decide)⟩, ad_ix [112, 113] (by rfl) (by decide), fun o t hq => ?_⟩
  obtain ⟨⟨r, ost, ho, ⟨hr, hu⟩, hP1, -⟩, hF⟩ := hq
  have FR : ∀ lo hi' : Nat, hi' ≤ 129 → ([112, 113] : List Nat).all (fun x => decide (x < lo) || decide (hi' ≤ x)) = true → ∀ j : Nat, lo ≤ j → j < hi' → ax j < st.heap.size → t.heap[ax j]? = st.heap[ax j]? := fun lo hi' h1 h2 => fr_ix hi h1 hF.2 [112, 113] (by rfl) (by decide) h2
  have np0 : X11Pr dC dI G ax T fa N B S M t.heap := ⟨zi112_4, zi112_5, zi112_6, zi112_7, zi112_8, zi112_9, zi112_13, zi112_14, zi112_15, zn112_16, zi112_17, zi112_18, zi112_34, p0j0, p0j1, p0j2, p0j3, p0j4, p0j5, p0j6, hP1 0 _ rfl⟩
  have np1 : X11P0 dC dI G ax (if (1 ≤ v.toInt ∧ v.toInt ≤ 9) then upd W0 48 (v - 5) else W0) W1 W2 N B N1 B1 N2 B2 t.heap := ⟨ost, p1j0, p1j1, p1j2, p1j3, (by rw [hu.2]; exact SR.set (by first | with_reducible assumption | assumption)), (by rw [hu.2]; exact SR.oth (by first | with_reducible assumption | assumption) (by decide) (fun _ => by decide)), (by rw [hu.2]; exact SR.oth (by first | with_reducible assumption | assumption) (by decide) (fun _ => by decide)), (by first | omega | exact hu | exact hu.1 | exact hu.1.1 | exact hu.1.2 | exact hu.2 | exact hu.1.1.1 | exact hu.1.1.2 | exact fd_nn (by first | with_reducible assumption | assumption) | (split at hu <;> omega) | (split <;> omega) | exact E_inv (by first | with_reducible assumption | assumption)), hP1 1 _ rfl⟩
  exact ⟨⟨r, (), ho, hr.trans (sd_r (by first | with_reducible assumption | assumption)), ⟨np0, np1, p2.kept (FR 114 115 (by decide) (by decide)), p3.kept (FR 115 116 (by decide) (by decide)), p4.kept (FR 116 117 (by decide) (by decide)), p5.kept (FR 117 118 (by decide) (by decide)), p6.kept (FR 118 119 (by decide) (by decide)), p7.kept (FR 119 120 (by decide) (by decide)), p8.kept (FR 120 121 (by decide) (by decide)), p9.kept (FR 121 122 (by decide) (by decide)), p10.kept (FR 122 123 (by decide) (by decide)), p11.kept (FR 123 124 (by decide) (by decide)), p12.kept (FR 124 125 (by decide) (by decide)), p13.kept (FR 125 126 (by decide) (by decide)), p14.kept (FR 126 127 (by decide) (by decide)), p15.kept (FR 127 128 (by decide) (by decide)), p16.kept (FR 128 129 (by decide) (by decide)), hX⟩⟩, hF.wide (ad_ix [112, 113] (by rfl) (by decide))⟩

set_option maxHeartbeats 1000000 in
set_option maxRecDepth 100000 in
theorem k_X11_noiseE (l : Launch) (dC : Nat → ClassId) (dI : Nat → Nat → Nat) (G : Nat → ClassId) (sz : Nat) (ax : Nat → Nat) (hi : adInj 129 ax) (T : Nat) (Y : Nat → Int32) (fa : Int32) (W0 : Nat → Int32) (W1 : Nat → Int32) (W2 : Nat → Int32) (N : Nat) (B : Nat) (N1 : Nat) (B1 : Nat) (N2 : Nat) (B2 : Nat) (K : Nat → Int32) (S : Nat) (M : Nat) (E : Nat → Int32) (Z : Nat → Int32) (i : Int32) (v : Int32) : Met l yX11_noise (Cond.code yX11_noise cX11_noise 3 (some .int) :: GT) ({ frames := 2, cells := 0, slots := 0, locals := 46 } : Room) (PcI [.ref (ax 112), .int i, .int v] dC dI G (X11I dC dI G ax T Y fa W0 W1 W2 N B N1 B1 N2 B2 K S M E Z) sz) (va_Qi (fun (r : Int32) (_ : Unit) => r = if ((0 ≤ i.toInt ∧ i.toInt < ((N : Nat) : Int)) ∧ 0 ≤ v.toInt ∧ v.toInt ≤ 9) then W0 (2 * i.toNatClampNeg) else -1) (fun _ t => X11I dC dI G ax T Y fa (if ((0 ≤ i.toInt ∧ i.toInt < ((N : Nat) : Int)) ∧ 0 ≤ v.toInt ∧ v.toInt ≤ 9) then upd W0 (2 * i.toNatClampNeg) v else W0) W1 W2 N B N1 B1 N2 B2 K S M E Z t.heap) (adX 112 129 ax sz)) 0 0 (adX 112 129 ax sz) := by
  refine Met.pick (fun a st hp => ?_)
  obtain ⟨e0, hsz, hI, hK⟩ := hp
  subst hsz
  have hI0 := hI
  unfold X11I at hI
  obtain ⟨p0, p1, p2, p3, p4, p5, p6, p7, p8, p9, p10, p11, p12, p13, p14, p15, p16, hX⟩ := hI
  unfold X11Pr at p0
  obtain ⟨zi112_4, zi112_5, zi112_6, zi112_7, zi112_8, zi112_9, zi112_13, zi112_14, zi112_15, zn112_16, zi112_17, zi112_18, zi112_34, p0j0, p0j1, p0j2, p0j3, p0j4, p0j5, p0j6, q112⟩ := p0
  unfold X11P0 at p1
  obtain ⟨zf113, p1j0, p1j1, p1j2, p1j3, p1j4, p1j5, p1j6, p1j7, q113⟩ := p1
  refine ⟨_, _, _, c_X11_noiseE l dC dI G _ (ax 112) (ax 113) N B (ax 114) (ax 115) T (ax 116) (ax 117) (ax 118) (ax 119) (ax 120) (ax 121) S (ax 122) M (ax 123) (ax 124) (ax 125) (ax 126) (ax 127) (ax 128) i v zi112_4 zi112_5 zi112_6 zi112_7 zi112_8 zi112_9 fa zi112_13 zi112_14 zi112_15 (nI zn112_16) zi112_17 zi112_18 zi112_34 zf113 (by first | with_reducible assumption | assumption) (by first | with_reducible assumption | assumption) (by first | with_reducible assumption | assumption) (by first | with_reducible assumption | assumption) (by first | with_reducible assumption | assumption) (by first | with_reducible assumption | assumption), ⟨e0, rfl, (vpc q112 (vpc q113 va_nilP)), hK, vD_ix hi [112, 113] (by rfl) (by decide) (by decide)⟩, ad_ix [112, 113] (by rfl) (by decide), fun o t hq => ?_⟩
  obtain ⟨⟨r, ost, ho, ⟨hr, hu⟩, hP1, -⟩, hF⟩ := hq
  have FR : ∀ lo hi' : Nat, hi' ≤ 129 → ([112, 113] : List Nat).all (fun x => decide (x < lo) || decide (hi' ≤ x)) = true → ∀ j : Nat, lo ≤ j → j < hi' → ax j < st.heap.size → t.heap[ax j]? = st.heap[ax j]? := fun lo hi' h1 h2 => fr_ix hi h1 hF.2 [112, 113] (by rfl) (by decide) h2
  have np0 : X11Pr dC dI G ax T fa N B S M t.heap := ⟨zi112_4, zi112_5, zi112_6, zi112_7, zi112_8, zi112_9, zi112_13, zi112_14, zi112_15, zn112_16, zi112_17, zi112_18, zi112_34, p0j0, p0j1, p0j2, p0j3, p0j4, p0j5, p0j6, hP1 0 _ rfl⟩
  have np1 : X11P0 dC dI G ax (if ((0 ≤ i.toInt ∧ i.toInt < ((N : Nat) : Int)) ∧ 0 ≤ v.toInt ∧ v.toInt ≤ 9) then upd W0 (2 * i.toNatClampNeg) v else W0) W1 W2 N B N1 B1 N2 B2 t.heap := ⟨ost, p1j0, p1j1, p1j2, p1j3, (by rw [hu.2]; exact SR.set (by first | with_reducible assumption | assumption)), (by rw [hu.2]; exact SR.oth (by first | with_reducible assumption | assumption) (by decide) (fun c9 => by have b9 := ck_lt c9.1; omega)), (by rw [hu.2]; exact SR.oth (by first | with_reducible assumption | assumption) (by decide) (fun c9 => by have b9 := ck_lt c9.1; omega)), (by first | omega | exact hu | exact hu.1 | exact hu.1.1 | exact hu.1.2 | exact hu.2 | exact hu.1.1.1 | exact hu.1.1.2 | exact fd_nn (by first | with_reducible assumption | assumption) | (split at hu <;> omega) | (split <;> omega) | exact E_inv (by first | with_reducible assumption | assumption)), hP1 1 _ rfl⟩
  exact ⟨⟨r, (), ho, hr.trans (nN_r (by first | with_reducible assumption | assumption) (fun b9 => Or.inr (Or.inl (by omega)))), ⟨np0, np1, p2.kept (FR 114 115 (by decide) (by decide)), p3.kept (FR 115 116 (by decide) (by decide)), p4.kept (FR 116 117 (by decide) (by decide)), p5.kept (FR 117 118 (by decide) (by decide)), p6.kept (FR 118 119 (by decide) (by decide)), p7.kept (FR 119 120 (by decide) (by decide)), p8.kept (FR 120 121 (by decide) (by decide)), p9.kept (FR 121 122 (by decide) (by decide)), p10.kept (FR 122 123 (by decide) (by decide)), p11.kept (FR 123 124 (by decide) (by decide)), p12.kept (FR 124 125 (by decide) (by decide)), p13.kept (FR 125 126 (by decide) (by decide)), p14.kept (FR 126 127 (by decide) (by decide)), p15.kept (FR 127 128 (by decide) (by decide)), p16.kept (FR 128 129 (by decide) (by decide)), hX⟩⟩, hF.wide (ad_ix [112, 113] (by rfl) (by decide))⟩

set_option maxHeartbeats 1000000 in
set_option maxRecDepth 100000 in
theorem k_X11_coldE (l : Launch) (dC : Nat → ClassId) (dI : Nat → Nat → Nat) (G : Nat → ClassId) (sz : Nat) (ax : Nat → Nat) (hi : adInj 129 ax) (T : Nat) (Y : Nat → Int32) (fa : Int32) (W0 : Nat → Int32) (W1 : Nat → Int32) (W2 : Nat → Int32) (N : Nat) (B : Nat) (N1 : Nat) (B1 : Nat) (N2 : Nat) (B2 : Nat) (K : Nat → Int32) (S : Nat) (M : Nat) (E : Nat → Int32) (Z : Nat → Int32) (i : Int32) (v : Int32) : Met l yX11_cold (Cond.code yX11_cold cX11_cold 3 (some .int) :: GT) ({ frames := 2, cells := 0, slots := 0, locals := 46 } : Room) (PcI [.ref (ax 112), .int i, .int v] dC dI G (X11I dC dI G ax T Y fa W0 W1 W2 N B N1 B1 N2 B2 K S M E Z) sz) (va_Qi (fun (r : Int32) (_ : Unit) => r = if ((0 ≤ i.toInt ∧ i.toInt < ((N : Nat) : Int)) ∧ 0 ≤ v.toInt ∧ v.toInt ≤ 9) then W0 (2 * i.toNatClampNeg + 1) else -1) (fun _ t => X11I dC dI G ax T Y fa (if ((0 ≤ i.toInt ∧ i.toInt < ((N : Nat) : Int)) ∧ 0 ≤ v.toInt ∧ v.toInt ≤ 9) then upd W0 (2 * i.toNatClampNeg + 1) v else W0) W1 W2 N B N1 B1 N2 B2 K S M E Z t.heap) (adX 112 129 ax sz)) 0 0 (adX 112 129 ax sz) := by
  refine Met.pick (fun a st hp => ?_)
  obtain ⟨e0, hsz, hI, hK⟩ := hp
  subst hsz
  have hI0 := hI
  unfold X11I at hI
  obtain ⟨p0, p1, p2, p3, p4, p5, p6, p7, p8, p9, p10, p11, p12, p13, p14, p15, p16, hX⟩ := hI
  unfold X11Pr at p0
  obtain ⟨zi112_4, zi112_5, zi112_6, zi112_7, zi112_8, zi112_9, zi112_13, zi112_14, zi112_15, zn112_16, zi112_17, zi112_18, zi112_34, p0j0, p0j1, p0j2, p0j3, p0j4, p0j5, p0j6, q112⟩ := p0
  unfold X11P0 at p1
  obtain ⟨zf113, p1j0, p1j1, p1j2, p1j3, p1j4, p1j5, p1j6, p1j7, q113⟩ := p1
  refine ⟨_, _, _, c_X11_coldE l dC dI G _ (ax 112) (ax 113) N B (ax 114) (ax 115) T (ax 116) (ax 117) (ax 118) (ax 119) (ax 120) (ax 121) S (ax 122) M (ax 123) (ax 124) (ax 125) (ax 126) (ax 127) (ax 128) i v zi112_4 zi112_5 zi112_6 zi112_7 zi112_8 zi112_9 fa zi112_13 zi112_14 zi112_15 (nI zn112_16) zi112_17 zi112_18 zi112_34 zf113 (by first | with_reducible assumption | assumption) (by first | with_reducible assumption | assumption) (by first | with_reducible assumption | assumption) (by first | with_reducible assumption | assumption) (by first | with_reducible assumption | assumption) (by first | with_reducible assumption | assumption), ⟨e0, rfl, (vpc q112 (vpc q113 va_nilP)), hK, vD_ix hi [112, 113] (by rfl) (by decide) (by decide)⟩, ad_ix [112, 113] (by rfl) (by decide), fun o t hq => ?_⟩
  obtain ⟨⟨r, ost, ho, ⟨hr, hu⟩, hP1, -⟩, hF⟩ := hq
  have FR : ∀ lo hi' : Nat, hi' ≤ 129 → ([112, 113] : List Nat).all (fun x => decide (x < lo) || decide (hi' ≤ x)) = true → ∀ j : Nat, lo ≤ j → j < hi' → ax j < st.heap.size → t.heap[ax j]? = st.heap[ax j]? := fun lo hi' h1 h2 => fr_ix hi h1 hF.2 [112, 113] (by rfl) (by decide) h2
  have np0 : X11Pr dC dI G ax T fa N B S M t.heap := ⟨zi112_4, zi112_5, zi112_6, zi112_7, zi112_8, zi112_9, zi112_13, zi112_14, zi112_15, zn112_16, zi112_17, zi112_18, zi112_34, p0j0, p0j1, p0j2, p0j3, p0j4, p0j5, p0j6, hP1 0 _ rfl⟩
  have np1 : X11P0 dC dI G ax (if ((0 ≤ i.toInt ∧ i.toInt < ((N : Nat) : Int)) ∧ 0 ≤ v.toInt ∧ v.toInt ≤ 9) then upd W0 (2 * i.toNatClampNeg + 1) v else W0) W1 W2 N B N1 B1 N2 B2 t.heap := ⟨ost, p1j0, p1j1, p1j2, p1j3, (by rw [hu.2]; exact SR.set (by first | with_reducible assumption | assumption)), (by rw [hu.2]; exact SR.oth (by first | with_reducible assumption | assumption) (by decide) (fun c9 => by have b9 := ck_lt c9.1; omega)), (by rw [hu.2]; exact SR.oth (by first | with_reducible assumption | assumption) (by decide) (fun c9 => by have b9 := ck_lt c9.1; omega)), (by first | omega | exact hu | exact hu.1 | exact hu.1.1 | exact hu.1.2 | exact hu.2 | exact hu.1.1.1 | exact hu.1.1.2 | exact fd_nn (by first | with_reducible assumption | assumption) | (split at hu <;> omega) | (split <;> omega) | exact E_inv (by first | with_reducible assumption | assumption)), hP1 1 _ rfl⟩
  exact ⟨⟨r, (), ho, hr.trans (nN_r (by first | with_reducible assumption | assumption) (fun b9 => Or.inr (Or.inl (by omega)))), ⟨np0, np1, p2.kept (FR 114 115 (by decide) (by decide)), p3.kept (FR 115 116 (by decide) (by decide)), p4.kept (FR 116 117 (by decide) (by decide)), p5.kept (FR 117 118 (by decide) (by decide)), p6.kept (FR 118 119 (by decide) (by decide)), p7.kept (FR 119 120 (by decide) (by decide)), p8.kept (FR 120 121 (by decide) (by decide)), p9.kept (FR 121 122 (by decide) (by decide)), p10.kept (FR 122 123 (by decide) (by decide)), p11.kept (FR 123 124 (by decide) (by decide)), p12.kept (FR 124 125 (by decide) (by decide)), p13.kept (FR 125 126 (by decide) (by decide)), p14.kept (FR 126 127 (by decide) (by decide)), p15.kept (FR 127 128 (by decide) (by decide)), p16.kept (FR 128 129 (by decide) (by decide)), hX⟩⟩, hF.wide (ad_ix [112, 113] (by rfl) (by decide))⟩

set_option maxHeartbeats 1000000 in
set_option maxRecDepth 100000 in
theorem k_X11_stepE (l : Launch) (dC : Nat → ClassId) (dI : Nat → Nat → Nat) (G : Nat → ClassId) (sz : Nat) (ax : Nat → Nat) (hi : adInj 129 ax) (T : Nat) (Y : Nat → Int32) (fa : Int32) (W0 : Nat → Int32) (W1 : Nat → Int32) (W2 : Nat → Int32) (N : Nat) (B : Nat) (N1 : Nat) (B1 : Nat) (N2 : Nat) (B2 : Nat) (K : Nat → Int32) (S : Nat) (M : Nat) (E : Nat → Int32) (Z : Nat → Int32) (i : Int32) (v : Int32) : Met l yX11_step (Cond.code yX11_step cX11_step 3 (some .int) :: GT) ({ frames := 2, cells := 0, slots := 0, locals := 46 } : Room) (PcI [.ref (ax 112), .int i, .int v] dC dI G (X11I dC dI G ax T Y fa W0 W1 W2 N B N1 B1 N2 B2 K S M E Z) sz) (va_Qi (fun (r : Int32) (_ : Unit) => r = if ((0 ≤ i.toInt ∧ i.toInt < ((B : Nat) : Int)) ∧ 0 ≤ v.toInt ∧ v.toInt ≤ 9) then W0 (20 + 3 * i.toNatClampNeg + 1) else -1) (fun _ t => X11I dC dI G ax T Y fa (if ((0 ≤ i.toInt ∧ i.toInt < ((B : Nat) : Int)) ∧ 0 ≤ v.toInt ∧ v.toInt ≤ 9) then upd W0 (20 + 3 * i.toNatClampNeg + 1) v else W0) W1 W2 N B N1 B1 N2 B2 K S M E Z t.heap) (adX 112 129 ax sz)) 0 0 (adX 112 129 ax sz) := by
  refine Met.pick (fun a st hp => ?_)
  obtain ⟨e0, hsz, hI, hK⟩ := hp
  subst hsz
  have hI0 := hI
  unfold X11I at hI
  obtain ⟨p0, p1, p2, p3, p4, p5, p6, p7, p8, p9, p10, p11, p12, p13, p14, p15, p16, hX⟩ := hI
  unfold X11Pr at p0
  obtain ⟨zi112_4, zi112_5, zi112_6, zi112_7, zi112_8, zi112_9, zi112_13, zi112_14, zi112_15, zn112_16, zi112_17, zi112_18, zi112_34, p0j0, p0j1, p0j2, p0j3, p0j4, p0j5, p0j6, q112⟩ := p0
  unfold X11P0 at p1
  obtain ⟨zf113, p1j0, p1j1, p1j2, p1j3, p1j4, p1j5, p1j6, p1j7, q113⟩ := p1
  refine ⟨_, _, _, c_X11_stepE l dC dI G _ (ax 112) (ax 113) N B (ax 114) (ax 115) T (ax 116) (ax 117) (ax 118) (ax 119) (ax 120) (ax 121) S (ax 122) M (ax 123) (ax 124) (ax 125) (ax 126) (ax 127) (ax 128) i v zi112_4 zi112_5 zi112_6 zi112_7 zi112_8 zi112_9 fa zi112_13 zi112_14 zi112_15 (nI zn112_16) zi112_17 zi112_18 zi112_34 zf113 (by first | with_reducible assumption | assumption) (by first | with_reducible assumption | assumption) (by first | with_reducible assumption | assumption) (by first | with_reducible assumption | assumption) (by first | with_reducible assumption | assumption) (by first | with_reducible assumption | assumption), ⟨e0, rfl, (vpc q112 (vpc q113 va_nilP)), hK, vD_ix hi [112, 113] (by rfl) (by decide) (by decide)⟩, ad_ix [112, 113] (by rfl) (by decide), fun o t hq => ?_⟩
  obtain ⟨⟨r, ost, ho, ⟨hr, hu⟩, hP1, -⟩, hF⟩ := hq
  have FR : ∀ lo hi' : Nat, hi' ≤ 129 → ([112, 113] : List Nat).all (fun x => decide (x < lo) || decide (hi' ≤ x)) = true → ∀ j : Nat, lo ≤ j → j < hi' → ax j < st.heap.size → t.heap[ax j]? = st.heap[ax j]? := fun lo hi' h1 h2 => fr_ix hi h1 hF.2 [112, 113] (by rfl) (by decide) h2
  have np0 : X11Pr dC dI G ax T fa N B S M t.heap := ⟨zi112_4, zi112_5, zi112_6, zi112_7, zi112_8, zi112_9, zi112_13, zi112_14, zi112_15, zn112_16, zi112_17, zi112_18, zi112_34, p0j0, p0j1, p0j2, p0j3, p0j4, p0j5, p0j6, hP1 0 _ rfl⟩
  have np1 : X11P0 dC dI G ax (if ((0 ≤ i.toInt ∧ i.toInt < ((B : Nat) : Int)) ∧ 0 ≤ v.toInt ∧ v.toInt ≤ 9) then upd W0 (20 + 3 * i.toNatClampNeg + 1) v else W0) W1 W2 N B N1 B1 N2 B2 t.heap := ⟨ost, p1j0, p1j1, p1j2, p1j3, (by rw [hu.2]; exact SR.set (by first | with_reducible assumption | assumption)), (by rw [hu.2]; exact SR.oth (by first | with_reducible assumption | assumption) (by decide) (fun c9 => by have b9 := ck_lt c9.1; omega)), (by rw [hu.2]; exact SR.oth (by first | with_reducible assumption | assumption) (by decide) (fun c9 => by have b9 := ck_lt c9.1; omega)), (by first | omega | exact hu | exact hu.1 | exact hu.1.1 | exact hu.1.2 | exact hu.2 | exact hu.1.1.1 | exact hu.1.1.2 | exact fd_nn (by first | with_reducible assumption | assumption) | (split at hu <;> omega) | (split <;> omega) | exact E_inv (by first | with_reducible assumption | assumption)), hP1 1 _ rfl⟩
  exact ⟨⟨r, (), ho, hr.trans (nB_r (by first | with_reducible assumption | assumption) (fun b9 => Or.inr (Or.inr (by omega)))), ⟨np0, np1, p2.kept (FR 114 115 (by decide) (by decide)), p3.kept (FR 115 116 (by decide) (by decide)), p4.kept (FR 116 117 (by decide) (by decide)), p5.kept (FR 117 118 (by decide) (by decide)), p6.kept (FR 118 119 (by decide) (by decide)), p7.kept (FR 119 120 (by decide) (by decide)), p8.kept (FR 120 121 (by decide) (by decide)), p9.kept (FR 121 122 (by decide) (by decide)), p10.kept (FR 122 123 (by decide) (by decide)), p11.kept (FR 123 124 (by decide) (by decide)), p12.kept (FR 124 125 (by decide) (by decide)), p13.kept (FR 125 126 (by decide) (by decide)), p14.kept (FR 126 127 (by decide) (by decide)), p15.kept (FR 127 128 (by decide) (by decide)), p16.kept (FR 128 129 (by decide) (by decide)), hX⟩⟩, hF.wide (ad_ix [112, 113] (by rfl) (by decide))⟩

set_option maxHeartbeats 1000000 in
set_option maxRecDepth 100000 in
theorem k_X11_warmE (l : Launch) (dC : Nat → ClassId) (dI : Nat → Nat → Nat) (G : Nat → ClassId) (sz : Nat) (ax : Nat → Nat) (hi : adInj 129 ax) (T : Nat) (Y : Nat → Int32) (fa : Int32) (W0 : Nat → Int32) (W1 : Nat → Int32) (W2 : Nat → Int32) (N : Nat) (B : Nat) (N1 : Nat) (B1 : Nat) (N2 : Nat) (B2 : Nat) (K : Nat → Int32) (S : Nat) (M : Nat) (E : Nat → Int32) (Z : Nat → Int32) (i : Int32) (v : Int32) : Met l yX11_warm (Cond.code yX11_warm cX11_warm 3 (some .int) :: GT) ({ frames := 2, cells := 0, slots := 0, locals := 46 } : Room) (PcI [.ref (ax 112), .int i, .int v] dC dI G (X11I dC dI G ax T Y fa W0 W1 W2 N B N1 B1 N2 B2 K S M E Z) sz) (va_Qi (fun (r : Int32) (_ : Unit) => r = if ((0 ≤ i.toInt ∧ i.toInt < ((B : Nat) : Int)) ∧ 0 ≤ v.toInt ∧ v.toInt ≤ 9) then W0 (20 + 3 * i.toNatClampNeg + 2) else -1) (fun _ t => X11I dC dI G ax T Y fa (if ((0 ≤ i.toInt ∧ i.toInt < ((B : Nat) : Int)) ∧ 0 ≤ v.toInt ∧ v.toInt ≤ 9) then upd W0 (20 + 3 * i.toNatClampNeg + 2) v else W0) W1 W2 N B N1 B1 N2 B2 K S M E Z t.heap) (adX 112 129 ax sz)) 0 0 (adX 112 129 ax sz) := by
  refine Met.pick (fun a st hp => ?_)
  obtain ⟨e0, hsz, hI, hK⟩ := hp
  subst hsz
  have hI0 := hI
  unfold X11I at hI
  obtain ⟨p0, p1, p2, p3, p4, p5, p6, p7, p8, p9, p10, p11, p12, p13, p14, p15, p16, hX⟩ := hI
  unfold X11Pr at p0
  obtain ⟨zi112_4, zi112_5, zi112_6, zi112_7, zi112_8, zi112_9, zi112_13, zi112_14, zi112_15, zn112_16, zi112_17, zi112_18, zi112_34, p0j0, p0j1, p0j2, p0j3, p0j4, p0j5, p0j6, q112⟩ := p0
  unfold X11P0 at p1
  obtain ⟨zf113, p1j0, p1j1, p1j2, p1j3, p1j4, p1j5, p1j6, p1j7, q113⟩ := p1
  refine ⟨_, _, _, c_X11_warmE l dC dI G _ (ax 112) (ax 113) N B (ax 114) (ax 115) T (ax 116) (ax 117) (ax 118) (ax 119) (ax 120) (ax 121) S (ax 122) M (ax 123) (ax 124) (ax 125) (ax 126) (ax 127) (ax 128) i v zi112_4 zi112_5 zi112_6 zi112_7 zi112_8 zi112_9 fa zi112_13 zi112_14 zi112_15 (nI zn112_16) zi112_17 zi112_18 zi112_34 zf113 (by first | with_reducible assumption | assumption) (by first | with_reducible assumption | assumption) (by first | with_reducible assumption | assumption) (by first | with_reducible assumption | assumption) (by first | with_reducible assumption | assumption) (by first | with_reducible assumption | assumption), ⟨e0, rfl, (vpc q112 (vpc q113 va_nilP)), hK, vD_ix hi [112, 113] (by rfl) (by decide) (by decide)⟩, ad_ix [112, 113] (by rfl) (by decide), fun o t hq => ?_⟩
  obtain ⟨⟨r, ost, ho, ⟨hr, hu⟩, hP1, -⟩, hF⟩ := hq
  have FR : ∀ lo hi' : Nat, hi' ≤ 129 → ([112, 113] : List Nat).all (fun x => decide (x < lo) || decide (hi' ≤ x)) = true → ∀ j : Nat, lo ≤ j → j < hi' → ax j < st.heap.size → t.heap[ax j]? = st.heap[ax j]? := fun lo hi' h1 h2 => fr_ix hi h1 hF.2 [112, 113] (by rfl) (by decide) h2
  have np0 : X11Pr dC dI G ax T fa N B S M t.heap := ⟨zi112_4, zi112_5, zi112_6, zi112_7, zi112_8, zi112_9, zi112_13, zi112_14, zi112_15, zn112_16, zi112_17, zi112_18, zi112_34, p0j0, p0j1, p0j2, p0j3, p0j4, p0j5, p0j6, hP1 0 _ rfl⟩
  have np1 : X11P0 dC dI G ax (if ((0 ≤ i.toInt ∧ i.toInt < ((B : Nat) : Int)) ∧ 0 ≤ v.toInt ∧ v.toInt ≤ 9) then upd W0 (20 + 3 * i.toNatClampNeg + 2) v else W0) W1 W2 N B N1 B1 N2 B2 t.heap := ⟨ost, p1j0, p1j1, p1j2, p1j3, (by rw [hu.2]; exact SR.set (by first | with_reducible assumption | assumption)), (by rw [hu.2]; exact SR.oth (by first | with_reducible assumption | assumption) (by decide) (fun c9 => by have b9 := ck_lt c9.1; omega)), (by rw [hu.2]; exact SR.oth (by first | with_reducible assumption | assumption) (by decide) (fun c9 => by have b9 := ck_lt c9.1; omega)), (by first | omega | exact hu | exact hu.1 | exact hu.1.1 | exact hu.1.2 | exact hu.2 | exact hu.1.1.1 | exact hu.1.1.2 | exact fd_nn (by first | with_reducible assumption | assumption) | (split at hu <;> omega) | (split <;> omega) | exact E_inv (by first | with_reducible assumption | assumption)), hP1 1 _ rfl⟩
  exact ⟨⟨r, (), ho, hr.trans (nB_r (by first | with_reducible assumption | assumption) (fun b9 => Or.inr (Or.inr (by omega)))), ⟨np0, np1, p2.kept (FR 114 115 (by decide) (by decide)), p3.kept (FR 115 116 (by decide) (by decide)), p4.kept (FR 116 117 (by decide) (by decide)), p5.kept (FR 117 118 (by decide) (by decide)), p6.kept (FR 118 119 (by decide) (by decide)), p7.kept (FR 119 120 (by decide) (by decide)), p8.kept (FR 120 121 (by decide) (by decide)), p9.kept (FR 121 122 (by decide) (by decide)), p10.kept (FR 122 123 (by decide) (by decide)), p11.kept (FR 123 124 (by decide) (by decide)), p12.kept (FR 124 125 (by decide) (by decide)), p13.kept (FR 125 126 (by decide) (by decide)), p14.kept (FR 126 127 (by decide) (by decide)), p15.kept (FR 127 128 (by decide) (by decide)), p16.kept (FR 128 129 (by decide) (by decide)), hX⟩⟩, hF.wide (ad_ix [112, 113] (by rfl) (by decide))⟩

set_option maxHeartbeats 1000000 in
set_option maxRecDepth 100000 in
theorem k_X11_putW (l : Launch) (dC : Nat → ClassId) (dI : Nat → Nat → Nat) (G : Nat → ClassId) (sz : Nat) (ax : Nat → Nat) (hi : adInj 129 ax) (T : Nat) (Y : Nat → Int32) (fa : Int32) (W0 : Nat → Int32) (W1 : Nat → Int32) (W2 : Nat → Int32) (N : Nat) (B : Nat) (N1 : Nat) (B1 : Nat) (N2 : Nat) (B2 : Nat) (K : Nat → Int32) (S : Nat) (M : Nat) (E : Nat → Int32) (Z : Nat → Int32) (i : Int32) (v : Int32) : Met l yX11_put (Cond.code yX11_put cX11_put 3 (some .int) :: GT) ({ frames := 3, cells := 0, slots := 0, locals := 68 } : Room) (PcI [.ref (ax 112), .int i, .int v] dC dI G (X11I dC dI G ax T Y fa W0 W1 W2 N B N1 B1 N2 B2 K S M E Z) sz) (va_Qi (fun (r : Int32) (_ : Unit) => True) (fun _ t => X11I dC dI G ax T Y fa W0 W1 W2 N B N1 B1 N2 B2 K S M E Z t.heap) (adX 112 129 ax sz)) 0 0 (adX 112 129 ax sz) := by
  refine Met.pick (fun a st hp => ?_)
  obtain ⟨e0, hsz, hI, hK⟩ := hp
  subst hsz
  have hI0 := hI
  unfold X11I at hI
  obtain ⟨p0, p1, p2, p3, p4, p5, p6, p7, p8, p9, p10, p11, p12, p13, p14, p15, p16, hX⟩ := hI
  unfold X11Pr at p0
  obtain ⟨zi112_4, zi112_5, zi112_6, zi112_7, zi112_8, zi112_9, zi112_13, zi112_14, zi112_15, zn112_16, zi112_17, zi112_18, zi112_34, p0j0, p0j1, p0j2, p0j3, p0j4, p0j5, p0j6, q112⟩ := p0
  unfold X11P0 at p1
  obtain ⟨zf113, p1j0, p1j1, p1j2, p1j3, p1j4, p1j5, p1j6, p1j7, q113⟩ := p1
  refine ⟨_, _, _, c_X11_putW l dC dI G _ (ax 112) (ax 113) N B (ax 114) (ax 115) T (ax 116) (ax 117) (ax 118) (ax 119) (ax 120) (ax 121) S (ax 122) M (ax 123) (ax 124) (ax 125) (ax 126) (ax 127) (ax 128) i v zi112_4 zi112_5 zi112_6 zi112_7 zi112_8 zi112_9 fa zi112_13 zi112_14 zi112_15 (nI zn112_16) zi112_17 zi112_18 zi112_34 zf113 (by first | with_reducible assumption | assumption) (by first | with_reducible assumption | assumption) (by first | with_reducible assumption | assumption) (by first | with_reducible assumption | assumption) (by first | with_reducible assumption | assumption) (by first | with_reducible assumption | assumption), ⟨e0, rfl, (vpc q112 (vpc q113 va_nilP)), hK, vD_ix hi [112, 113] (by rfl) (by decide) (by decide)⟩, ad_ix [112, 113] (by rfl) (by decide), fun o t hq => ?_⟩
  obtain ⟨⟨r, ost, ho, ⟨hr, hu⟩, hP1, -⟩, hF⟩ := hq
  have FR : ∀ lo hi' : Nat, hi' ≤ 129 → ([112, 113] : List Nat).all (fun x => decide (x < lo) || decide (hi' ≤ x)) = true → ∀ j : Nat, lo ≤ j → j < hi' → ax j < st.heap.size → t.heap[ax j]? = st.heap[ax j]? := fun lo hi' h1 h2 => fr_ix hi h1 hF.2 [112, 113] (by rfl) (by decide) h2
  have np0 : X11Pr dC dI G ax T fa N B S M t.heap := ⟨zi112_4, zi112_5, zi112_6, zi112_7, zi112_8, zi112_9, zi112_13, zi112_14, zi112_15, zn112_16, zi112_17, zi112_18, zi112_34, p0j0, p0j1, p0j2, p0j3, p0j4, p0j5, p0j6, hP1 0 _ rfl⟩
  have np1 : X11P0 dC dI G ax W0 W1 W2 N B N1 B1 N2 B2 t.heap := ⟨ost, p1j0, p1j1, p1j2, p1j3, (SR.no3 (by first | with_reducible assumption | assumption) hu.2.n3 (by first | with_reducible assumption | assumption) (by first | with_reducible assumption | assumption) (by omega)), (SR.no3 (by first | with_reducible assumption | assumption) hu.2.n3 (by first | with_reducible assumption | assumption) (by first | with_reducible assumption | assumption) (by omega)), (SR.no3 (by first | with_reducible assumption | assumption) hu.2.n3 (by first | with_reducible assumption | assumption) (by first | with_reducible assumption | assumption) (by omega)), (by first | omega | exact hu | exact hu.1 | exact hu.1.1 | exact hu.1.2 | exact hu.2 | exact hu.1.1.1 | exact hu.1.1.2 | exact fd_nn (by first | with_reducible assumption | assumption) | (split at hu <;> omega) | (split <;> omega) | exact E_inv (by first | with_reducible assumption | assumption)), hP1 1 _ rfl⟩
  exact ⟨⟨r, (), ho, trivial, ⟨np0, np1, p2.kept (FR 114 115 (by decide) (by decide)), p3.kept (FR 115 116 (by decide) (by decide)), p4.kept (FR 116 117 (by decide) (by decide)), p5.kept (FR 117 118 (by decide) (by decide)), p6.kept (FR 118 119 (by decide) (by decide)), p7.kept (FR 119 120 (by decide) (by decide)), p8.kept (FR 120 121 (by decide) (by decide)), p9.kept (FR 121 122 (by decide) (by decide)), p10.kept (FR 122 123 (by decide) (by decide)), p11.kept (FR 123 124 (by decide) (by decide)), p12.kept (FR 124 125 (by decide) (by decide)), p13.kept (FR 125 126 (by decide) (by decide)), p14.kept (FR 126 127 (by decide) (by decide)), p15.kept (FR 127 128 (by decide) (by decide)), p16.kept (FR 128 129 (by decide) (by decide)), hX⟩⟩, hF.wide (ad_ix [112, 113] (by rfl) (by decide))⟩

set_option maxHeartbeats 1000000 in
set_option maxRecDepth 100000 in
theorem k_X11_harmE (l : Launch) (dC : Nat → ClassId) (dI : Nat → Nat → Nat) (G : Nat → ClassId) (sz : Nat) (ax : Nat → Nat) (hi : adInj 129 ax) (T : Nat) (Y : Nat → Int32) (fa : Int32) (W0 : Nat → Int32) (W1 : Nat → Int32) (W2 : Nat → Int32) (N : Nat) (B : Nat) (N1 : Nat) (B1 : Nat) (N2 : Nat) (B2 : Nat) (K : Nat → Int32) (S : Nat) (M : Nat) (E : Nat → Int32) (Z : Nat → Int32) (i : Int32) (g : Int32) (k : Int32) : Met l yX11_harm (Cond.code yX11_harm cX11_harm 4 (some .int) :: GT) ({ frames := 3, cells := 0, slots := 0, locals := 69 } : Room) (PcI [.ref (ax 112), .int i, .int g, .int k] dC dI G (X11I dC dI G ax T Y fa W0 W1 W2 N B N1 B1 N2 B2 K S M E Z) sz) (va_Qi (fun (r : Int32) (_ : Unit) => r = haW N B W0 i g k) (fun _ t => X11I dC dI G ax T Y fa W0 W1 W2 N B N1 B1 N2 B2 K S M E Z t.heap) (adX 112 129 ax sz)) 0 0 (adX 112 129 ax sz) := by
  refine Met.pick (fun a st hp => ?_)
  obtain ⟨e0, hsz, hI, hK⟩ := hp
  subst hsz
  have hI0 := hI
  unfold X11I at hI
  obtain ⟨p0, p1, p2, p3, p4, p5, p6, p7, p8, p9, p10, p11, p12, p13, p14, p15, p16, hX⟩ := hI
  unfold X11Pr at p0
  obtain ⟨zi112_4, zi112_5, zi112_6, zi112_7, zi112_8, zi112_9, zi112_13, zi112_14, zi112_15, zn112_16, zi112_17, zi112_18, zi112_34, p0j0, p0j1, p0j2, p0j3, p0j4, p0j5, p0j6, q112⟩ := p0
  unfold X11P0 at p1
  obtain ⟨zf113, p1j0, p1j1, p1j2, p1j3, p1j4, p1j5, p1j6, p1j7, q113⟩ := p1
  refine ⟨_, _, _, c_X11_harmE l dC dI G _ (ax 112) (ax 113) N B (ax 114) (ax 115) T (ax 116) (ax 117) (ax 118) (ax 119) (ax 120) (ax 121) S (ax 122) M (ax 123) (ax 124) (ax 125) (ax 126) (ax 127) (ax 128) i g k zi112_4 zi112_5 zi112_6 zi112_7 zi112_8 zi112_9 fa zi112_13 zi112_14 zi112_15 (nI zn112_16) zi112_17 zi112_18 zi112_34 zf113 (by first | with_reducible assumption | assumption) (by first | with_reducible assumption | assumption) (by first | with_reducible assumption | assumption) (by first | with_reducible assumption | assumption) (by first | with_reducible assumption | assumption), ⟨e0, rfl, (vpc q112 (vpc q113 va_nilP)), hK⟩, fun q h => Or.inr h, fun o t hq => ?_⟩
  obtain ⟨⟨r, u, ho, ⟨hr, hu⟩, -⟩, hF⟩ := hq
  exact ⟨⟨r, (), ho, hr.trans (ha_r (by first | with_reducible assumption | assumption)), hI0.kept (fun j _ _ h => hF.2 _ h (Nat.not_le.mpr h))⟩, hF.wide (fun q h => Or.inr h)⟩

set_option maxHeartbeats 1000000 in
set_option maxRecDepth 100000 in
theorem k_X11_wakes (l : Launch) (dC : Nat → ClassId) (dI : Nat → Nat → Nat) (G : Nat → ClassId) (sz : Nat) (ax : Nat → Nat) (hi : adInj 129 ax) (T : Nat) (Y : Nat → Int32) (fa : Int32) (W0 : Nat → Int32) (W1 : Nat → Int32) (W2 : Nat → Int32) (N : Nat) (B : Nat) (N1 : Nat) (B1 : Nat) (N2 : Nat) (B2 : Nat) (K : Nat → Int32) (S : Nat) (M : Nat) (E : Nat → Int32) (Z : Nat → Int32) (what : Int32) : Met l yX11_wakes (Cond.code yX11_wakes cX11_wakes 2 (some .long) :: GT) ({ frames := 4, cells := 0, slots := 0, locals := 99 } : Room) (PcI [.ref (ax 112), .int what] dC dI G (X11I dC dI G ax T Y fa W0 W1 W2 N B N1 B1 N2 B2 K S M E Z) sz) (va_Ql (fun (r : Int64) (_ : Unit) => True) (fun _ t => X11I dC dI G ax T Y fa W0 W1 W2 N B N1 B1 N2 B2 K S M E Z t.heap) (adX 112 129 ax sz)) 0 0 (adX 112 129 ax sz) := by
  refine Met.pick (fun a st hp => ?_)
  obtain ⟨e0, hsz, hI, hK⟩ := hp
  subst hsz
  have hI0 := hI
  unfold X11I at hI
  obtain ⟨p0, p1, p2, p3, p4, p5, p6, p7, p8, p9, p10, p11, p12, p13, p14, p15, p16, hX⟩ := hI
  unfold X11Pr at p0
  obtain ⟨zi112_4, zi112_5, zi112_6, zi112_7, zi112_8, zi112_9, zi112_13, zi112_14, zi112_15, zn112_16, zi112_17, zi112_18, zi112_34, p0j0, p0j1, p0j2, p0j3, p0j4, p0j5, p0j6, q112⟩ := p0
  unfold X11P0 at p1
  obtain ⟨zf113, p1j0, p1j1, p1j2, p1j3, p1j4, p1j5, p1j6, p1j7, q113⟩ := p1
  unfold X11P21 at p6
  obtain ⟨zf118, q118⟩ := p6
  unfold X11P22 at p7
  obtain ⟨zf119, q119⟩ := p7
  refine ⟨_, _, _, c_X11_wakes l dC dI G _ (ax 112) (ax 113) N B (ax 114) (ax 115) T (ax 116) (ax 117) (ax 118) (ax 119) (ax 120) (ax 121) S (ax 122) M (ax 123) (ax 124) (ax 125) (ax 126) (ax 127) (ax 128) what zi112_4 zi112_5 zi112_6 zi112_7 zi112_8 zi112_9 fa zi112_13 zi112_14 zi112_15 (nI zn112_16) zi112_17 zi112_18 zi112_34 zf113 zf118 zf119 (by first | with_reducible assumption | assumption) (by first | with_reducible assumption | assumption) (by first | with_reducible assumption | assumption) (by first | with_reducible assumption | assumption) (by first | with_reducible assumption | assumption) (by first | with_reducible assumption | assumption), ⟨e0, rfl, (vpc q112 (vpc q113 (vpc q118 (vpc q119 va_nilP)))), hK, vD_ix hi [112, 113, 118, 119] (by rfl) (by decide) (by decide)⟩, ad_ix [112, 113, 118, 119] (by rfl) (by decide), fun o t hq => ?_⟩
  obtain ⟨⟨r, ⟨ood, oth⟩, ho, ⟨hr, hu⟩, hP1, -⟩, hF⟩ := hq
  have FR : ∀ lo hi' : Nat, hi' ≤ 129 → ([112, 113, 118, 119] : List Nat).all (fun x => decide (x < lo) || decide (hi' ≤ x)) = true → ∀ j : Nat, lo ≤ j → j < hi' → ax j < st.heap.size → t.heap[ax j]? = st.heap[ax j]? := fun lo hi' h1 h2 => fr_ix hi h1 hF.2 [112, 113, 118, 119] (by rfl) (by decide) h2
  have np0 : X11Pr dC dI G ax T fa N B S M t.heap := ⟨zi112_4, zi112_5, zi112_6, zi112_7, zi112_8, zi112_9, zi112_13, zi112_14, zi112_15, zn112_16, zi112_17, zi112_18, zi112_34, p0j0, p0j1, p0j2, p0j3, p0j4, p0j5, p0j6, hP1 0 _ rfl⟩
  have np1 : X11P0 dC dI G ax W0 W1 W2 N B N1 B1 N2 B2 t.heap := ⟨zf113, p1j0, p1j1, p1j2, p1j3, p1j4, p1j5, p1j6, p1j7, hP1 1 _ rfl⟩
  have np6 : X11P21 dC dI G ax t.heap := ⟨ood, hP1 2 _ rfl⟩
  have np7 : X11P22 dC dI G ax t.heap := ⟨oth, hP1 3 _ rfl⟩
  exact ⟨⟨r, (), ho, trivial, ⟨np0, np1, p2.kept (FR 114 115 (by decide) (by decide)), p3.kept (FR 115 116 (by decide) (by decide)), p4.kept (FR 116 117 (by decide) (by decide)), p5.kept (FR 117 118 (by decide) (by decide)), np6, np7, p8.kept (FR 120 121 (by decide) (by decide)), p9.kept (FR 121 122 (by decide) (by decide)), p10.kept (FR 122 123 (by decide) (by decide)), p11.kept (FR 123 124 (by decide) (by decide)), p12.kept (FR 124 125 (by decide) (by decide)), p13.kept (FR 125 126 (by decide) (by decide)), p14.kept (FR 126 127 (by decide) (by decide)), p15.kept (FR 127 128 (by decide) (by decide)), p16.kept (FR 128 129 (by decide) (by decide)), hX⟩⟩, hF.wide (ad_ix [112, 113, 118, 119] (by rfl) (by decide))⟩

set_option maxHeartbeats 1000000 in
set_option maxRecDepth 100000 in
theorem k_X11_awake (l : Launch) (dC : Nat → ClassId) (dI : Nat → Nat → Nat) (G : Nat → ClassId) (sz : Nat) (ax : Nat → Nat) (hi : adInj 129 ax) (T : Nat) (Y : Nat → Int32) (fa : Int32) (W0 : Nat → Int32) (W1 : Nat → Int32) (W2 : Nat → Int32) (N : Nat) (B : Nat) (N1 : Nat) (B1 : Nat) (N2 : Nat) (B2 : Nat) (K : Nat → Int32) (S : Nat) (M : Nat) (E : Nat → Int32) (Z : Nat → Int32) (i : Int32) (what : Int32) : Met l yX11_awake (Cond.code yX11_awake cX11_awake 3 (some .long) :: GT) ({ frames := 5, cells := 0, slots := 0, locals := 122 } : Room) (PcI [.ref (ax 112), .int i, .int what] dC dI G (X11I dC dI G ax T Y fa W0 W1 W2 N B N1 B1 N2 B2 K S M E Z) sz) (va_Ql (fun (r : Int64) (_ : Unit) => True) (fun _ t => X11I dC dI G ax T Y fa W0 W1 W2 N B N1 B1 N2 B2 K S M E Z t.heap) (adX 112 129 ax sz)) 0 0 (adX 112 129 ax sz) := by
  refine Met.pick (fun a st hp => ?_)
  obtain ⟨e0, hsz, hI, hK⟩ := hp
  subst hsz
  have hI0 := hI
  unfold X11I at hI
  obtain ⟨p0, p1, p2, p3, p4, p5, p6, p7, p8, p9, p10, p11, p12, p13, p14, p15, p16, hX⟩ := hI
  unfold X11Pr at p0
  obtain ⟨zi112_4, zi112_5, zi112_6, zi112_7, zi112_8, zi112_9, zi112_13, zi112_14, zi112_15, zn112_16, zi112_17, zi112_18, zi112_34, p0j0, p0j1, p0j2, p0j3, p0j4, p0j5, p0j6, q112⟩ := p0
  unfold X11P0 at p1
  obtain ⟨zf113, p1j0, p1j1, p1j2, p1j3, p1j4, p1j5, p1j6, p1j7, q113⟩ := p1
  unfold X11P21 at p6
  obtain ⟨zf118, q118⟩ := p6
  unfold X11P22 at p7
  obtain ⟨zf119, q119⟩ := p7
  refine ⟨_, _, _, c_X11_awake l dC dI G _ (ax 112) (ax 113) N B (ax 114) (ax 115) T (ax 116) (ax 117) (ax 118) (ax 119) (ax 120) (ax 121) S (ax 122) M (ax 123) (ax 124) (ax 125) (ax 126) (ax 127) (ax 128) i what zi112_4 zi112_5 zi112_6 zi112_7 zi112_8 zi112_9 fa zi112_13 zi112_14 zi112_15 (nI zn112_16) zi112_17 zi112_18 zi112_34 zf113 zf118 zf119 (by first | with_reducible assumption | assumption) (by first | with_reducible assumption | assumption) (by first | with_reducible assumption | assumption) (by first | with_reducible assumption | assumption) (by first | with_reducible assumption | assumption) (by first | with_reducible assumption | assumption), ⟨e0, rfl, (vpc q112 (vpc q113 (vpc q118 (vpc q119 va_nilP)))), hK, vD_ix hi [112, 113, 118, 119] (by rfl) (by decide) (by decide)⟩, ad_ix [112, 113, 118, 119] (by rfl) (by decide), fun o t hq => ?_⟩
  obtain ⟨⟨r, ⟨ood, oth⟩, ho, ⟨hr, hu⟩, hP1, -⟩, hF⟩ := hq
  have FR : ∀ lo hi' : Nat, hi' ≤ 129 → ([112, 113, 118, 119] : List Nat).all (fun x => decide (x < lo) || decide (hi' ≤ x)) = true → ∀ j : Nat, lo ≤ j → j < hi' → ax j < st.heap.size → t.heap[ax j]? = st.heap[ax j]? := fun lo hi' h1 h2 => fr_ix hi h1 hF.2 [112, 113, 118, 119] (by rfl) (by decide) h2
  have np0 : X11Pr dC dI G ax T fa N B S M t.heap := ⟨zi112_4, zi112_5, zi112_6, zi112_7, zi112_8, zi112_9, zi112_13, zi112_14, zi112_15, zn112_16, zi112_17, zi112_18, zi112_34, p0j0, p0j1, p0j2, p0j3, p0j4, p0j5, p0j6, hP1 0 _ rfl⟩
  have np1 : X11P0 dC dI G ax W0 W1 W2 N B N1 B1 N2 B2 t.heap := ⟨zf113, p1j0, p1j1, p1j2, p1j3, p1j4, p1j5, p1j6, p1j7, hP1 1 _ rfl⟩
  have np6 : X11P21 dC dI G ax t.heap := ⟨ood, hP1 2 _ rfl⟩
  have np7 : X11P22 dC dI G ax t.heap := ⟨oth, hP1 3 _ rfl⟩
  exact ⟨⟨r, (), ho, trivial, ⟨np0, np1, p2.kept (FR 114 115 (by decide) (by decide)), p3.kept (FR 115 116 (by decide) (by decide)), p4.kept (FR 116 117 (by decide) (by decide)), p5.kept (FR 117 118 (by decide) (by decide)), np6, np7, p8.kept (FR 120 121 (by decide) (by decide)), p9.kept (FR 121 122 (by decide) (by decide)), p10.kept (FR 122 123 (by decide) (by decide)), p11.kept (FR 123 124 (by decide) (by decide)), p12.kept (FR 124 125 (by decide) (by decide)), p13.kept (FR 125 126 (by decide) (by decide)), p14.kept (FR 126 127 (by decide) (by decide)), p15.kept (FR 127 128 (by decide) (by decide)), p16.kept (FR 128 129 (by decide) (by decide)), hX⟩⟩, hF.wide (ad_ix [112, 113, 118, 119] (by rfl) (by decide))⟩

set_option maxHeartbeats 1000000 in
set_option maxRecDepth 100000 in
theorem k_X11_depth (l : Launch) (dC : Nat → ClassId) (dI : Nat → Nat → Nat) (G : Nat → ClassId) (sz : Nat) (ax : Nat → Nat) (hi : adInj 129 ax) (T : Nat) (Y : Nat → Int32) (fa : Int32) (W0 : Nat → Int32) (W1 : Nat → Int32) (W2 : Nat → Int32) (N : Nat) (B : Nat) (N1 : Nat) (B1 : Nat) (N2 : Nat) (B2 : Nat) (K : Nat → Int32) (S : Nat) (M : Nat) (E : Nat → Int32) (Z : Nat → Int32) (i : Int32) (d : Int32) (what : Int32) : Met l yX11_depth (Cond.code yX11_depth cX11_depth 4 (some .long) :: GT) ({ frames := 4, cells := 0, slots := 0, locals := 99 } : Room) (PcI [.ref (ax 112), .int i, .int d, .int what] dC dI G (X11I dC dI G ax T Y fa W0 W1 W2 N B N1 B1 N2 B2 K S M E Z) sz) (va_Ql (fun (r : Int64) (_ : Unit) => True) (fun _ t => X11I dC dI G ax T Y fa W0 W1 W2 N B N1 B1 N2 B2 K S M E Z t.heap) (adX 112 129 ax sz)) 0 0 (adX 112 129 ax sz) := by
  refine Met.pick (fun a st hp => ?_)
  obtain ⟨e0, hsz, hI, hK⟩ := hp
  subst hsz
  have hI0 := hI
  unfold X11I at hI
  obtain ⟨p0, p1, p2, p3, p4, p5, p6, p7, p8, p9, p10, p11, p12, p13, p14, p15, p16, hX⟩ := hI
  unfold X11Pr at p0
  obtain ⟨zi112_4, zi112_5, zi112_6, zi112_7, zi112_8, zi112_9, zi112_13, zi112_14, zi112_15, zn112_16, zi112_17, zi112_18, zi112_34, p0j0, p0j1, p0j2, p0j3, p0j4, p0j5, p0j6, q112⟩ := p0
  unfold X11P0 at p1
  obtain ⟨zf113, p1j0, p1j1, p1j2, p1j3, p1j4, p1j5, p1j6, p1j7, q113⟩ := p1
  unfold X11P21 at p6
  obtain ⟨zf118, q118⟩ := p6
  unfold X11P22 at p7
  obtain ⟨zf119, q119⟩ := p7
  refine ⟨_, _, _, c_X11_depth l dC dI G _ (ax 112) (ax 113) N B (ax 114) (ax 115) T (ax 116) (ax 117) (ax 118) (ax 119) (ax 120) (ax 121) S (ax 122) M (ax 123) (ax 124) (ax 125) (ax 126) (ax 127) (ax 128) i d what zi112_4 zi112_5 zi112_6 zi112_7 zi112_8 zi112_9 fa zi112_13 zi112_14 zi112_15 (nI zn112_16) zi112_17 zi112_18 zi112_34 zf113 zf118 zf119 (by first | with_reducible assumption | assumption) (by first | with_reducible assumption | assumption) (by first | with_reducible assumption | assumption) (by first | with_reducible assumption | assumption) (by first | with_reducible assumption | assumption) (by first | with_reducible assumption | assumption), ⟨e0, rfl, (vpc q112 (vpc q113 (vpc q118 (vpc q119 va_nilP)))), hK, vD_ix hi [112, 113, 118, 119] (by rfl) (by decide) (by decide)⟩, ad_ix [112, 113, 118, 119] (by rfl) (by decide), fun o t hq => ?_⟩
  obtain ⟨⟨r, ⟨ood, oth⟩, ho, ⟨hr, hu⟩, hP1, -⟩, hF⟩ := hq
  have FR : ∀ lo hi' : Nat, hi' ≤ 129 → ([112, 113, 118, 119] : List Nat).all (fun x => decide (x < lo) || decide (hi' ≤ x)) = true → ∀ j : Nat, lo ≤ j → j < hi' → ax j < st.heap.size → t.heap[ax j]? = st.heap[ax j]? := fun lo hi' h1 h2 => fr_ix hi h1 hF.2 [112, 113, 118, 119] (by rfl) (by decide) h2
  have np0 : X11Pr dC dI G ax T fa N B S M t.heap := ⟨zi112_4, zi112_5, zi112_6, zi112_7, zi112_8, zi112_9, zi112_13, zi112_14, zi112_15, zn112_16, zi112_17, zi112_18, zi112_34, p0j0, p0j1, p0j2, p0j3, p0j4, p0j5, p0j6, hP1 0 _ rfl⟩
  have np1 : X11P0 dC dI G ax W0 W1 W2 N B N1 B1 N2 B2 t.heap := ⟨zf113, p1j0, p1j1, p1j2, p1j3, p1j4, p1j5, p1j6, p1j7, hP1 1 _ rfl⟩
  have np6 : X11P21 dC dI G ax t.heap := ⟨ood, hP1 2 _ rfl⟩
  have np7 : X11P22 dC dI G ax t.heap := ⟨oth, hP1 3 _ rfl⟩
  exact ⟨⟨r, (), ho, trivial, ⟨np0, np1, p2.kept (FR 114 115 (by decide) (by decide)), p3.kept (FR 115 116 (by decide) (by decide)), p4.kept (FR 116 117 (by decide) (by decide)), p5.kept (FR 117 118 (by decide) (by decide)), np6, np7, p8.kept (FR 120 121 (by decide) (by decide)), p9.kept (FR 121 122 (by decide) (by decide)), p10.kept (FR 122 123 (by decide) (by decide)), p11.kept (FR 123 124 (by decide) (by decide)), p12.kept (FR 124 125 (by decide) (by decide)), p13.kept (FR 125 126 (by decide) (by decide)), p14.kept (FR 126 127 (by decide) (by decide)), p15.kept (FR 127 128 (by decide) (by decide)), p16.kept (FR 128 129 (by decide) (by decide)), hX⟩⟩, hF.wide (ad_ix [112, 113, 118, 119] (by rfl) (by decide))⟩

set_option maxHeartbeats 1000000 in
set_option maxRecDepth 100000 in
theorem k_X11_best (l : Launch) (dC : Nat → ClassId) (dI : Nat → Nat → Nat) (G : Nat → ClassId) (sz : Nat) (ax : Nat → Nat) (hi : adInj 129 ax) (T : Nat) (Y : Nat → Int32) (fa : Int32) (W0 : Nat → Int32) (W1 : Nat → Int32) (W2 : Nat → Int32) (N : Nat) (B : Nat) (N1 : Nat) (B1 : Nat) (N2 : Nat) (B2 : Nat) (K : Nat → Int32) (S : Nat) (M : Nat) (E : Nat → Int32) (Z : Nat → Int32) (what : Int32) : Met l yX11_best (Cond.code yX11_best cX11_best 2 (some .long) :: GT) ({ frames := 4, cells := 0, slots := 0, locals := 102 } : Room) (PcI [.ref (ax 112), .int what] dC dI G (X11I dC dI G ax T Y fa W0 W1 W2 N B N1 B1 N2 B2 K S M E Z) sz) (va_Ql (fun (r : Int64) (_ : Unit) => True) (fun _ t => X11I dC dI G ax T Y fa W0 W1 W2 N B N1 B1 N2 B2 K S M E Z t.heap) (adX 112 129 ax sz)) 0 0 (adX 112 129 ax sz) := by
  refine Met.pick (fun a st hp => ?_)
  obtain ⟨e0, hsz, hI, hK⟩ := hp
  subst hsz
  have hI0 := hI
  unfold X11I at hI
  obtain ⟨p0, p1, p2, p3, p4, p5, p6, p7, p8, p9, p10, p11, p12, p13, p14, p15, p16, hX⟩ := hI
  unfold X11Pr at p0
  obtain ⟨zi112_4, zi112_5, zi112_6, zi112_7, zi112_8, zi112_9, zi112_13, zi112_14, zi112_15, zn112_16, zi112_17, zi112_18, zi112_34, p0j0, p0j1, p0j2, p0j3, p0j4, p0j5, p0j6, q112⟩ := p0
  unfold X11P0 at p1
  obtain ⟨zf113, p1j0, p1j1, p1j2, p1j3, p1j4, p1j5, p1j6, p1j7, q113⟩ := p1
  unfold X11P23 at p8
  obtain ⟨zf120, q120⟩ := p8
  refine ⟨_, _, _, c_X11_best l dC dI G _ (ax 112) (ax 113) N B (ax 114) (ax 115) T (ax 116) (ax 117) (ax 118) (ax 119) (ax 120) (ax 121) S (ax 122) M (ax 123) (ax 124) (ax 125) (ax 126) (ax 127) (ax 128) what zi112_4 zi112_5 zi112_6 zi112_7 zi112_8 zi112_9 fa zi112_13 zi112_14 zi112_15 (nI zn112_16) zi112_17 zi112_18 zi112_34 zf113 zf120 (by first | with_reducible assumption | assumption) (by first | with_reducible assumption | assumption) (by first | with_reducible assumption | assumption) (by first | with_reducible assumption | assumption) (by first | with_reducible assumption | assumption) (by first | with_reducible assumption | assumption) (by first | with_reducible assumption | assumption), ⟨e0, rfl, (vpc q112 (vpc q113 (vpc q120 va_nilP))), hK, vD_ix hi [112, 113, 120] (by rfl) (by decide) (by decide)⟩, ad_ix [112, 113, 120] (by rfl) (by decide), fun o t hq => ?_⟩
  obtain ⟨⟨r, obe, ho, ⟨hr, hu⟩, hP1, -⟩, hF⟩ := hq
  have FR : ∀ lo hi' : Nat, hi' ≤ 129 → ([112, 113, 120] : List Nat).all (fun x => decide (x < lo) || decide (hi' ≤ x)) = true → ∀ j : Nat, lo ≤ j → j < hi' → ax j < st.heap.size → t.heap[ax j]? = st.heap[ax j]? := fun lo hi' h1 h2 => fr_ix hi h1 hF.2 [112, 113, 120] (by rfl) (by decide) h2
  have np0 : X11Pr dC dI G ax T fa N B S M t.heap := ⟨zi112_4, zi112_5, zi112_6, zi112_7, zi112_8, zi112_9, zi112_13, zi112_14, zi112_15, zn112_16, zi112_17, zi112_18, zi112_34, p0j0, p0j1, p0j2, p0j3, p0j4, p0j5, p0j6, hP1 0 _ rfl⟩
  have np1 : X11P0 dC dI G ax W0 W1 W2 N B N1 B1 N2 B2 t.heap := ⟨zf113, p1j0, p1j1, p1j2, p1j3, p1j4, p1j5, p1j6, p1j7, hP1 1 _ rfl⟩
  have np8 : X11P23 dC dI G ax t.heap := ⟨obe, hP1 2 _ rfl⟩
  exact ⟨⟨r, (), ho, trivial, ⟨np0, np1, p2.kept (FR 114 115 (by decide) (by decide)), p3.kept (FR 115 116 (by decide) (by decide)), p4.kept (FR 116 117 (by decide) (by decide)), p5.kept (FR 117 118 (by decide) (by decide)), p6.kept (FR 118 119 (by decide) (by decide)), p7.kept (FR 119 120 (by decide) (by decide)), np8, p9.kept (FR 121 122 (by decide) (by decide)), p10.kept (FR 122 123 (by decide) (by decide)), p11.kept (FR 123 124 (by decide) (by decide)), p12.kept (FR 124 125 (by decide) (by decide)), p13.kept (FR 125 126 (by decide) (by decide)), p14.kept (FR 126 127 (by decide) (by decide)), p15.kept (FR 127 128 (by decide) (by decide)), p16.kept (FR 128 129 (by decide) (by decide)), hX⟩⟩, hF.wide (ad_ix [112, 113, 120] (by rfl) (by decide))⟩

set_option maxHeartbeats 1000000 in
set_option maxRecDepth 100000 in
theorem k_X11_next (l : Launch) (dC : Nat → ClassId) (dI : Nat → Nat → Nat) (G : Nat → ClassId) (sz : Nat) (ax : Nat → Nat) (hi : adInj 129 ax) (T : Nat) (Y : Nat → Int32) (fa : Int32) (W0 : Nat → Int32) (W1 : Nat → Int32) (W2 : Nat → Int32) (N : Nat) (B : Nat) (N1 : Nat) (B1 : Nat) (N2 : Nat) (B2 : Nat) (K : Nat → Int32) (S : Nat) (M : Nat) (E : Nat → Int32) (Z : Nat → Int32) (i : Int32) (g : Int32) (d : Int32) : Met l yX11_next (Cond.code yX11_next cX11_next 5 (some .int) :: GT) ({ frames := 4, cells := 0, slots := 0, locals := 102 } : Room) (PcI [.ref (ax 112), .int i, .int g, .int d] dC dI G (X11I dC dI G ax T Y fa W0 W1 W2 N B N1 B1 N2 B2 K S M E Z) sz) (va_Qi (fun (r : Int32) (_ : Unit) => True) (fun _ t => X11I dC dI G ax T Y fa W0 W1 W2 N B N1 B1 N2 B2 K S M E Z t.heap) (adX 112 129 ax sz)) 0 0 (adX 112 129 ax sz) := by
  refine Met.pick (fun a st hp => ?_)
  obtain ⟨e0, hsz, hI, hK⟩ := hp
  subst hsz
  have hI0 := hI
  unfold X11I at hI
  obtain ⟨p0, p1, p2, p3, p4, p5, p6, p7, p8, p9, p10, p11, p12, p13, p14, p15, p16, hX⟩ := hI
  unfold X11Pr at p0
  obtain ⟨zi112_4, zi112_5, zi112_6, zi112_7, zi112_8, zi112_9, zi112_13, zi112_14, zi112_15, zn112_16, zi112_17, zi112_18, zi112_34, p0j0, p0j1, p0j2, p0j3, p0j4, p0j5, p0j6, q112⟩ := p0
  unfold X11P0 at p1
  obtain ⟨zf113, p1j0, p1j1, p1j2, p1j3, p1j4, p1j5, p1j6, p1j7, q113⟩ := p1
  unfold X11P23 at p8
  obtain ⟨zf120, q120⟩ := p8
  refine ⟨_, _, _, c_X11_next l dC dI G _ (ax 112) (ax 113) N B (ax 114) (ax 115) T (ax 116) (ax 117) (ax 118) (ax 119) (ax 120) (ax 121) S (ax 122) M (ax 123) (ax 124) (ax 125) (ax 126) (ax 127) (ax 128) i g d zi112_4 zi112_5 zi112_6 zi112_7 zi112_8 zi112_9 fa zi112_13 zi112_14 zi112_15 (nI zn112_16) zi112_17 zi112_18 zi112_34 zf113 zf120 (by first | with_reducible assumption | assumption) (by first | with_reducible assumption | assumption) (by first | with_reducible assumption | assumption) (by first | with_reducible assumption | assumption) (by first | with_reducible assumption | assumption) (by first | with_reducible assumption | assumption) (by first | with_reducible assumption | assumption), ⟨e0, rfl, (vpc q112 (vpc q113 (vpc q120 va_nilP))), hK, vD_ix hi [112, 113, 120] (by rfl) (by decide) (by decide)⟩, ad_ix [112, 113, 120] (by rfl) (by decide), fun o t hq => ?_⟩
  obtain ⟨⟨r, obe, ho, ⟨hr, hu⟩, hP1, -⟩, hF⟩ := hq
  have FR : ∀ lo hi' : Nat, hi' ≤ 129 → ([112, 113, 120] : List Nat).all (fun x => decide (x < lo) || decide (hi' ≤ x)) = true → ∀ j : Nat, lo ≤ j → j < hi' → ax j < st.heap.size → t.heap[ax j]? = st.heap[ax j]? := fun lo hi' h1 h2 => fr_ix hi h1 hF.2 [112, 113, 120] (by rfl) (by decide) h2
  have np0 : X11Pr dC dI G ax T fa N B S M t.heap := ⟨zi112_4, zi112_5, zi112_6, zi112_7, zi112_8, zi112_9, zi112_13, zi112_14, zi112_15, zn112_16, zi112_17, zi112_18, zi112_34, p0j0, p0j1, p0j2, p0j3, p0j4, p0j5, p0j6, hP1 0 _ rfl⟩
  have np1 : X11P0 dC dI G ax W0 W1 W2 N B N1 B1 N2 B2 t.heap := ⟨zf113, p1j0, p1j1, p1j2, p1j3, p1j4, p1j5, p1j6, p1j7, hP1 1 _ rfl⟩
  have np8 : X11P23 dC dI G ax t.heap := ⟨obe, hP1 2 _ rfl⟩
  exact ⟨⟨r, (), ho, trivial, ⟨np0, np1, p2.kept (FR 114 115 (by decide) (by decide)), p3.kept (FR 115 116 (by decide) (by decide)), p4.kept (FR 116 117 (by decide) (by decide)), p5.kept (FR 117 118 (by decide) (by decide)), p6.kept (FR 118 119 (by decide) (by decide)), p7.kept (FR 119 120 (by decide) (by decide)), np8, p9.kept (FR 121 122 (by decide) (by decide)), p10.kept (FR 122 123 (by decide) (by decide)), p11.kept (FR 123 124 (by decide) (by decide)), p12.kept (FR 124 125 (by decide) (by decide)), p13.kept (FR 125 126 (by decide) (by decide)), p14.kept (FR 126 127 (by decide) (by decide)), p15.kept (FR 127 128 (by decide) (by decide)), p16.kept (FR 128 129 (by decide) (by decide)), hX⟩⟩, hF.wide (ad_ix [112, 113, 120] (by rfl) (by decide))⟩

set_option maxHeartbeats 1000000 in
set_option maxRecDepth 100000 in
theorem k_X11_withoutE (l : Launch) (dC : Nat → ClassId) (dI : Nat → Nat → Nat) (G : Nat → ClassId) (sz : Nat) (ax : Nat → Nat) (hi : adInj 129 ax) (T : Nat) (Y : Nat → Int32) (fa : Int32) (W0 : Nat → Int32) (W1 : Nat → Int32) (W2 : Nat → Int32) (N : Nat) (B : Nat) (N1 : Nat) (B1 : Nat) (N2 : Nat) (B2 : Nat) (K : Nat → Int32) (S : Nat) (M : Nat) (E : Nat → Int32) (Z : Nat → Int32) (i : Int32) (what : Int32) : Met l yX11_without (Cond.code yX11_without cX11_without 3 (some .long) :: GT) ({ frames := 4, cells := 0, slots := 0, locals := 102 } : Room) (PcI [.ref (ax 112), .int i, .int what] dC dI G (X11I dC dI G ax T Y fa W0 W1 W2 N B N1 B1 N2 B2 K S M E Z) sz) (va_Ql (fun (r : Int64) (_ : Unit) => r = if ((0 ≤ i.toInt ∧ i.toInt < ((B : Nat) : Int)) ∧ (0 ≤ what.toInt ∧ what.toInt ≤ 1)) then (if B < 2 then -2 else frF (zbV (zbH W0) N B i N (sdN W0)) (powF N) what) else -1) (fun _ t => X11I dC dI G ax T Y fa W0 W1 W2 N B N1 B1 N2 B2 K S M E Z t.heap) (adX 112 129 ax sz)) 0 0 (adX 112 129 ax sz) := by
  refine Met.pick (fun a st hp => ?_)
  obtain ⟨e0, hsz, hI, hK⟩ := hp
  subst hsz
  have hI0 := hI
  unfold X11I at hI
  obtain ⟨p0, p1, p2, p3, p4, p5, p6, p7, p8, p9, p10, p11, p12, p13, p14, p15, p16, hX⟩ := hI
  unfold X11Pr at p0
  obtain ⟨zi112_4, zi112_5, zi112_6, zi112_7, zi112_8, zi112_9, zi112_13, zi112_14, zi112_15, zn112_16, zi112_17, zi112_18, zi112_34, p0j0, p0j1, p0j2, p0j3, p0j4, p0j5, p0j6, q112⟩ := p0
  unfold X11P0 at p1
  obtain ⟨zf113, p1j0, p1j1, p1j2, p1j3, p1j4, p1j5, p1j6, p1j7, q113⟩ := p1
  unfold X11P23 at p8
  obtain ⟨zf120, q120⟩ := p8
  refine ⟨_, _, _, c_X11_withoutE l dC dI G _ (ax 112) (ax 113) N B (ax 114) (ax 115) T (ax 116) (ax 117) (ax 118) (ax 119) (ax 120) (ax 121) S (ax 122) M (ax 123) (ax 124) (ax 125) (ax 126) (ax 127) (ax 128) i what zi112_4 zi112_5 zi112_6 zi112_7 zi112_8 zi112_9 fa zi112_13 zi112_14 zi112_15 (nI zn112_16) zi112_17 zi112_18 zi112_34 zf113 zf120 (by first | with_reducible assumption | assumption) (by first | with_reducible assumption | assumption) (by first | with_reducible assumption | assumption) (by first | with_reducible assumption | assumption) (by first | with_reducible assumption | assumption) (by first | with_reducible assumption | assumption) (by first | with_reducible assumption | assumption), ⟨e0, rfl, (vpc q112 (vpc q113 (vpc q120 va_nilP))), hK, vD_ix hi [112, 113, 120] (by rfl) (by decide) (by decide)⟩, ad_ix [112, 113, 120] (by rfl) (by decide), fun o t hq => ?_⟩
  obtain ⟨⟨r, obe, ho, ⟨hr, hu⟩, hP1, -⟩, hF⟩ := hq
  have FR : ∀ lo hi' : Nat, hi' ≤ 129 → ([112, 113, 120] : List Nat).all (fun x => decide (x < lo) || decide (hi' ≤ x)) = true → ∀ j : Nat, lo ≤ j → j < hi' → ax j < st.heap.size → t.heap[ax j]? = st.heap[ax j]? := fun lo hi' h1 h2 => fr_ix hi h1 hF.2 [112, 113, 120] (by rfl) (by decide) h2
  have np0 : X11Pr dC dI G ax T fa N B S M t.heap := ⟨zi112_4, zi112_5, zi112_6, zi112_7, zi112_8, zi112_9, zi112_13, zi112_14, zi112_15, zn112_16, zi112_17, zi112_18, zi112_34, p0j0, p0j1, p0j2, p0j3, p0j4, p0j5, p0j6, hP1 0 _ rfl⟩
  have np1 : X11P0 dC dI G ax W0 W1 W2 N B N1 B1 N2 B2 t.heap := ⟨zf113, p1j0, p1j1, p1j2, p1j3, p1j4, p1j5, p1j6, p1j7, hP1 1 _ rfl⟩
  have np8 : X11P23 dC dI G ax t.heap := ⟨obe, hP1 2 _ rfl⟩
  exact ⟨⟨r, (), ho, hr.trans (wo9_r (by first | with_reducible assumption | assumption) (by first | with_reducible assumption | assumption) (by first | with_reducible assumption | assumption) (by first | with_reducible assumption | assumption)), ⟨np0, np1, p2.kept (FR 114 115 (by decide) (by decide)), p3.kept (FR 115 116 (by decide) (by decide)), p4.kept (FR 116 117 (by decide) (by decide)), p5.kept (FR 117 118 (by decide) (by decide)), p6.kept (FR 118 119 (by decide) (by decide)), p7.kept (FR 119 120 (by decide) (by decide)), np8, p9.kept (FR 121 122 (by decide) (by decide)), p10.kept (FR 122 123 (by decide) (by decide)), p11.kept (FR 123 124 (by decide) (by decide)), p12.kept (FR 124 125 (by decide) (by decide)), p13.kept (FR 125 126 (by decide) (by decide)), p14.kept (FR 126 127 (by decide) (by decide)), p15.kept (FR 127 128 (by decide) (by decide)), p16.kept (FR 128 129 (by decide) (by decide)), hX⟩⟩, hF.wide (ad_ix [112, 113, 120] (by rfl) (by decide))⟩

set_option maxHeartbeats 1000000 in
set_option maxRecDepth 100000 in
theorem k_X11_quiet (l : Launch) (dC : Nat → ClassId) (dI : Nat → Nat → Nat) (G : Nat → ClassId) (sz : Nat) (ax : Nat → Nat) (hi : adInj 129 ax) (T : Nat) (Y : Nat → Int32) (fa : Int32) (W0 : Nat → Int32) (W1 : Nat → Int32) (W2 : Nat → Int32) (N : Nat) (B : Nat) (N1 : Nat) (B1 : Nat) (N2 : Nat) (B2 : Nat) (K : Nat → Int32) (S : Nat) (M : Nat) (E : Nat → Int32) (Z : Nat → Int32) (mm : Int32) (what : Int32) : Met l yX11_quiet (Cond.code yX11_quiet cX11_quiet 7 (some .long) :: GT) ({ frames := 4, cells := 0, slots := 0, locals := 99 } : Room) (PcI [.ref (ax 112), .int mm, .int what] dC dI G (X11I dC dI G ax T Y fa W0 W1 W2 N B N1 B1 N2 B2 K S M E Z) sz) (va_Ql (fun (r : Int64) (_ : Unit) => True) (fun _ t => X11I dC dI G ax T Y fa W0 W1 W2 N B N1 B1 N2 B2 K S M E Z t.heap) (adX 112 129 ax sz)) 0 0 (adX 112 129 ax sz) := by
  refine Met.pick (fun a st hp => ?_)
  obtain ⟨e0, hsz, hI, hK⟩ := hp
  subst hsz
  have hI0 := hI
  unfold X11I at hI
  obtain ⟨p0, p1, p2, p3, p4, p5, p6, p7, p8, p9, p10, p11, p12, p13, p14, p15, p16, hX⟩ := hI
  unfold X11Pr at p0
  obtain ⟨zi112_4, zi112_5, zi112_6, zi112_7, zi112_8, zi112_9, zi112_13, zi112_14, zi112_15, zn112_16, zi112_17, zi112_18, zi112_34, p0j0, p0j1, p0j2, p0j3, p0j4, p0j5, p0j6, q112⟩ := p0
  unfold X11P0 at p1
  obtain ⟨zf113, p1j0, p1j1, p1j2, p1j3, p1j4, p1j5, p1j6, p1j7, q113⟩ := p1
  unfold X11P21 at p6
  obtain ⟨zf118, q118⟩ := p6
  unfold X11P22 at p7
  obtain ⟨zf119, q119⟩ := p7
  refine ⟨_, _, _, c_X11_quiet l dC dI G _ (ax 112) (ax 113) N B (ax 114) (ax 115) T (ax 116) (ax 117) (ax 118) (ax 119) (ax 120) (ax 121) S (ax 122) M (ax 123) (ax 124) (ax 125) (ax 126) (ax 127) (ax 128) mm what zi112_4 zi112_5 zi112_6 zi112_7 zi112_8 zi112_9 fa zi112_13 zi112_14 zi112_15 (nI zn112_16) zi112_17 zi112_18 zi112_34 zf113 zf118 zf119 (by first | with_reducible assumption | assumption) (by first | with_reducible assumption | assumption) (by first | with_reducible assumption | assumption) (by first | with_reducible assumption | assumption) (by first | with_reducible assumption | assumption) (by first | with_reducible assumption | assumption), ⟨e0, rfl, (vpc q112 (vpc q113 (vpc q118 (vpc q119 va_nilP)))), hK, vD_ix hi [112, 113, 118, 119] (by rfl) (by decide) (by decide)⟩, ad_ix [112, 113, 118, 119] (by rfl) (by decide), fun o t hq => ?_⟩
  obtain ⟨⟨r, ⟨ood, oth⟩, ho, ⟨hr, hu⟩, hP1, -⟩, hF⟩ := hq
  have FR : ∀ lo hi' : Nat, hi' ≤ 129 → ([112, 113, 118, 119] : List Nat).all (fun x => decide (x < lo) || decide (hi' ≤ x)) = true → ∀ j : Nat, lo ≤ j → j < hi' → ax j < st.heap.size → t.heap[ax j]? = st.heap[ax j]? := fun lo hi' h1 h2 => fr_ix hi h1 hF.2 [112, 113, 118, 119] (by rfl) (by decide) h2
  have np0 : X11Pr dC dI G ax T fa N B S M t.heap := ⟨zi112_4, zi112_5, zi112_6, zi112_7, zi112_8, zi112_9, zi112_13, zi112_14, zi112_15, zn112_16, zi112_17, zi112_18, zi112_34, p0j0, p0j1, p0j2, p0j3, p0j4, p0j5, p0j6, hP1 0 _ rfl⟩
  have np1 : X11P0 dC dI G ax W0 W1 W2 N B N1 B1 N2 B2 t.heap := ⟨zf113, p1j0, p1j1, p1j2, p1j3, p1j4, p1j5, p1j6, p1j7, hP1 1 _ rfl⟩
  have np6 : X11P21 dC dI G ax t.heap := ⟨ood, hP1 2 _ rfl⟩
  have np7 : X11P22 dC dI G ax t.heap := ⟨oth, hP1 3 _ rfl⟩
  exact ⟨⟨r, (), ho, trivial, ⟨np0, np1, p2.kept (FR 114 115 (by decide) (by decide)), p3.kept (FR 115 116 (by decide) (by decide)), p4.kept (FR 116 117 (by decide) (by decide)), p5.kept (FR 117 118 (by decide) (by decide)), np6, np7, p8.kept (FR 120 121 (by decide) (by decide)), p9.kept (FR 121 122 (by decide) (by decide)), p10.kept (FR 122 123 (by decide) (by decide)), p11.kept (FR 123 124 (by decide) (by decide)), p12.kept (FR 124 125 (by decide) (by decide)), p13.kept (FR 125 126 (by decide) (by decide)), p14.kept (FR 126 127 (by decide) (by decide)), p15.kept (FR 127 128 (by decide) (by decide)), p16.kept (FR 128 129 (by decide) (by decide)), hX⟩⟩, hF.wide (ad_ix [112, 113, 118, 119] (by rfl) (by decide))⟩

set_option maxHeartbeats 1000000 in
set_option maxRecDepth 100000 in
theorem k_X11_drop (l : Launch) (dC : Nat → ClassId) (dI : Nat → Nat → Nat) (G : Nat → ClassId) (sz : Nat) (ax : Nat → Nat) (hi : adInj 129 ax) (T : Nat) (Y : Nat → Int32) (fa : Int32) (W0 : Nat → Int32) (W1 : Nat → Int32) (W2 : Nat → Int32) (N : Nat) (B : Nat) (N1 : Nat) (B1 : Nat) (N2 : Nat) (B2 : Nat) (K : Nat → Int32) (S : Nat) (M : Nat) (E : Nat → Int32) (Z : Nat → Int32) (what : Int32) : Met l yX11_drop (Cond.code yX11_drop cX11_drop 6 (some .long) :: GT) ({ frames := 4, cells := 0, slots := 0, locals := 99 } : Room) (PcI [.ref (ax 112), .int what] dC dI G (X11I dC dI G ax T Y fa W0 W1 W2 N B N1 B1 N2 B2 K S M E Z) sz) (va_Ql (fun (r : Int64) (_ : Unit) => True) (fun _ t => X11I dC dI G ax T Y fa W0 W1 W2 N B N1 B1 N2 B2 K S M E Z t.heap) (adX 112 129 ax sz)) 0 0 (adX 112 129 ax sz) := by
  refine Met.pick (fun a st hp => ?_)
  obtain ⟨e0, hsz, hI, hK⟩ := hp
  subst hsz
  have hI0 := hI
  unfold X11I at hI
  obtain ⟨p0, p1, p2, p3, p4, p5, p6, p7, p8, p9, p10, p11, p12, p13, p14, p15, p16, hX⟩ := hI
  unfold X11Pr at p0
  obtain ⟨zi112_4, zi112_5, zi112_6, zi112_7, zi112_8, zi112_9, zi112_13, zi112_14, zi112_15, zn112_16, zi112_17, zi112_18, zi112_34, p0j0, p0j1, p0j2, p0j3, p0j4, p0j5, p0j6, q112⟩ := p0
  unfold X11P0 at p1
  obtain ⟨zf113, p1j0, p1j1, p1j2, p1j3, p1j4, p1j5, p1j6, p1j7, q113⟩ := p1
  unfold X11P21 at p6
  obtain ⟨zf118, q118⟩ := p6
  unfold X11P22 at p7
  obtain ⟨zf119, q119⟩ := p7
  refine ⟨_, _, _, c_X11_drop l dC dI G _ (ax 112) (ax 113) N B (ax 114) (ax 115) T (ax 116) (ax 117) (ax 118) (ax 119) (ax 120) (ax 121) S (ax 122) M (ax 123) (ax 124) (ax 125) (ax 126) (ax 127) (ax 128) what zi112_4 zi112_5 zi112_6 zi112_7 zi112_8 zi112_9 fa zi112_13 zi112_14 zi112_15 (nI zn112_16) zi112_17 zi112_18 zi112_34 zf113 zf118 zf119 (by first | with_reducible assumption | assumption) (by first | with_reducible assumption | assumption) (by first | with_reducible assumption | assumption) (by first | with_reducible assumption | assumption) (by first | with_reducible assumption | assumption) (by first | with_reducible assumption | assumption), ⟨e0, rfl, (vpc q112 (vpc q113 (vpc q118 (vpc q119 va_nilP)))), hK, vD_ix hi [112, 113, 118, 119] (by rfl) (by decide) (by decide)⟩, ad_ix [112, 113, 118, 119] (by rfl) (by decide), fun o t hq => ?_⟩
  obtain ⟨⟨r, ⟨ood, oth⟩, ho, ⟨hr, hu⟩, hP1, -⟩, hF⟩ := hq
  have FR : ∀ lo hi' : Nat, hi' ≤ 129 → ([112, 113, 118, 119] : List Nat).all (fun x => decide (x < lo) || decide (hi' ≤ x)) = true → ∀ j : Nat, lo ≤ j → j < hi' → ax j < st.heap.size → t.heap[ax j]? = st.heap[ax j]? := fun lo hi' h1 h2 => fr_ix hi h1 hF.2 [112, 113, 118, 119] (by rfl) (by decide) h2
  have np0 : X11Pr dC dI G ax T fa N B S M t.heap := ⟨zi112_4, zi112_5, zi112_6, zi112_7, zi112_8, zi112_9, zi112_13, zi112_14, zi112_15, zn112_16, zi112_17, zi112_18, zi112_34, p0j0, p0j1, p0j2, p0j3, p0j4, p0j5, p0j6, hP1 0 _ rfl⟩
  have np1 : X11P0 dC dI G ax W0 W1 W2 N B N1 B1 N2 B2 t.heap := ⟨zf113, p1j0, p1j1, p1j2, p1j3, p1j4, p1j5, p1j6, p1j7, hP1 1 _ rfl⟩
  have np6 : X11P21 dC dI G ax t.heap := ⟨ood, hP1 2 _ rfl⟩
  have np7 : X11P22 dC dI G ax t.heap := ⟨oth, hP1 3 _ rfl⟩
  exact ⟨⟨r, (), ho, trivial, ⟨np0, np1, p2.kept (FR 114 115 (by decide) (by decide)), p3.kept (FR 115 116 (by decide) (by decide)), p4.kept (FR 116 117 (by decide) (by decide)), p5.kept (FR 117 118 (by decide) (by decide)), np6, np7, p8.kept (FR 120 121 (by decide) (by decide)), p9.kept (FR 121 122 (by decide) (by decide)), p10.kept (FR 122 123 (by decide) (by decide)), p11.kept (FR 123 124 (by decide) (by decide)), p12.kept (FR 124 125 (by decide) (by decide)), p13.kept (FR 125 126 (by decide) (by decide)), p14.kept (FR 126 127 (by decide) (by decide)), p15.kept (FR 127 128 (by decide) (by decide)), p16.kept (FR 128 129 (by decide) (by decide)), hX⟩⟩, hF.wide (ad_ix [112, 113, 118, 119] (by rfl) (by decide))⟩

set_option maxHeartbeats 1000000 in
set_option maxRecDepth 100000 in
theorem k_X11_swapW (l : Launch) (dC : Nat → ClassId) (dI : Nat → Nat → Nat) (G : Nat → ClassId) (sz : Nat) (ax : Nat → Nat) (hi : adInj 129 ax) (T : Nat) (Y : Nat → Int32) (fa : Int32) (W0 : Nat → Int32) (W1 : Nat → Int32) (W2 : Nat → Int32) (N : Nat) (B : Nat) (N1 : Nat) (B1 : Nat) (N2 : Nat) (B2 : Nat) (K : Nat → Int32) (S : Nat) (M : Nat) (E : Nat → Int32) (Z : Nat → Int32) (what : Int32) : Met l yX11_swap (Cond.code yX11_swap cX11_swap 7 (some .long) :: GT) ({ frames := 4, cells := 0, slots := 0, locals := 99 } : Room) (PcI [.ref (ax 112), .int what] dC dI G (X11I dC dI G ax T Y fa W0 W1 W2 N B N1 B1 N2 B2 K S M E Z) sz) (va_Ql (fun (r : Int64) (_ : Unit) => True) (fun _ t => X11I dC dI G ax T Y fa W0 W1 W2 N B N1 B1 N2 B2 K S M E Z t.heap) (adX 112 129 ax sz)) 0 0 (adX 112 129 ax sz) := by
  refine Met.pick (fun a st hp => ?_)
  obtain ⟨e0, hsz, hI, hK⟩ := hp
  subst hsz
  have hI0 := hI
  unfold X11I at hI
  obtain ⟨p0, p1, p2, p3, p4, p5, p6, p7, p8, p9, p10, p11, p12, p13, p14, p15, p16, hX⟩ := hI
  unfold X11Pr at p0
  obtain ⟨zi112_4, zi112_5, zi112_6, zi112_7, zi112_8, zi112_9, zi112_13, zi112_14, zi112_15, zn112_16, zi112_17, zi112_18, zi112_34, p0j0, p0j1, p0j2, p0j3, p0j4, p0j5, p0j6, q112⟩ := p0
  unfold X11P0 at p1
  obtain ⟨zf113, p1j0, p1j1, p1j2, p1j3, p1j4, p1j5, p1j6, p1j7, q113⟩ := p1
  unfold X11P21 at p6
  obtain ⟨zf118, q118⟩ := p6
  unfold X11P22 at p7
  obtain ⟨zf119, q119⟩ := p7
  refine ⟨_, _, _, c_X11_swapW l dC dI G _ (ax 112) (ax 113) N B (ax 114) (ax 115) T (ax 116) (ax 117) (ax 118) (ax 119) (ax 120) (ax 121) S (ax 122) M (ax 123) (ax 124) (ax 125) (ax 126) (ax 127) (ax 128) what zi112_4 zi112_5 zi112_6 zi112_7 zi112_8 zi112_9 fa zi112_13 zi112_14 zi112_15 (nI zn112_16) zi112_17 zi112_18 zi112_34 zf113 zf118 zf119 (by first | with_reducible assumption | assumption) (by first | with_reducible assumption | assumption) (by first | with_reducible assumption | assumption) (by first | with_reducible assumption | assumption) (by first | with_reducible assumption | assumption) (by first | with_reducible assumption | assumption), ⟨e0, rfl, (vpc q112 (vpc q113 (vpc q118 (vpc q119 va_nilP)))), hK, vD_ix hi [112, 113, 118, 119] (by rfl) (by decide) (by decide)⟩, ad_ix [112, 113, 118, 119] (by rfl) (by decide), fun o t hq => ?_⟩
  obtain ⟨⟨r, ⟨ost, ood, oth⟩, ho, ⟨hr, hu⟩, hP1, -⟩, hF⟩ := hq
  have FR : ∀ lo hi' : Nat, hi' ≤ 129 → ([112, 113, 118, 119] : List Nat).all (fun x => decide (x < lo) || decide (hi' ≤ x)) = true → ∀ j : Nat, lo ≤ j → j < hi' → ax j < st.heap.size → t.heap[ax j]? = st.heap[ax j]? := fun lo hi' h1 h2 => fr_ix hi h1 hF.2 [112, 113, 118, 119] (by rfl) (by decide) h2
  have np0 : X11Pr dC dI G ax T fa N B S M t.heap := ⟨zi112_4, zi112_5, zi112_6, zi112_7, zi112_8, zi112_9, zi112_13, zi112_14, zi112_15, zn112_16, zi112_17, zi112_18, zi112_34, p0j0, p0j1, p0j2, p0j3, p0j4, p0j5, p0j6, hP1 0 _ rfl⟩
  have np1 : X11P0 dC dI G ax W0 W1 W2 N B N1 B1 N2 B2 t.heap := ⟨ost, p1j0, p1j1, p1j2, p1j3, (SR.no3 (by first | with_reducible assumption | assumption) hu.2.n3 (by first | with_reducible assumption | assumption) (by first | with_reducible assumption | assumption) (by omega)), (SR.no3 (by first | with_reducible assumption | assumption) hu.2.n3 (by first | with_reducible assumption | assumption) (by first | with_reducible assumption | assumption) (by omega)), (SR.no3 (by first | with_reducible assumption | assumption) hu.2.n3 (by first | with_reducible assumption | assumption) (by first | with_reducible assumption | assumption) (by omega)), (by first | omega | exact hu | exact hu.1 | exact hu.1.1 | exact hu.1.2 | exact hu.2 | exact hu.1.1.1 | exact hu.1.1.2 | exact fd_nn (by first | with_reducible assumption | assumption) | (split at hu <;> omega) | (split <;> omega) | exact E_inv (by first | with_reducible assumption | assumption)), hP1 1 _ rfl⟩
  have np6 : X11P21 dC dI G ax t.heap := ⟨ood, hP1 2 _ rfl⟩
  have np7 : X11P22 dC dI G ax t.heap := ⟨oth, hP1 3 _ rfl⟩
  exact ⟨⟨r, (), ho, trivial, ⟨np0, np1, p2.kept (FR 114 115 (by decide) (by decide)), p3.kept (FR 115 116 (by decide) (by decide)), p4.kept (FR 116 117 (by decide) (by decide)), p5.kept (FR 117 118 (by decide) (by decide)), np6, np7, p8.kept (FR 120 121 (by decide) (by decide)), p9.kept (FR 121 122 (by decide) (by decide)), p10.kept (FR 122 123 (by decide) (by decide)), p11.kept (FR 123 124 (by decide) (by decide)), p12.kept (FR 124 125 (by decide) (by decide)), p13.kept (FR 125 126 (by decide) (by decide)), p14.kept (FR 126 127 (by decide) (by decide)), p15.kept (FR 127 128 (by decide) (by decide)), p16.kept (FR 128 129 (by decide) (by decide)), hX⟩⟩, hF.wide (ad_ix [112, 113, 118, 119] (by rfl) (by decide))⟩

set_option maxHeartbeats 1000000 in
set_option maxRecDepth 100000 in
theorem k_X11_carry (l : Launch) (dC : Nat → ClassId) (dI : Nat → Nat → Nat) (G : Nat → ClassId) (sz : Nat) (ax : Nat → Nat) (hi : adInj 129 ax) (T : Nat) (Y : Nat → Int32) (fa : Int32) (W0 : Nat → Int32) (W1 : Nat → Int32) (W2 : Nat → Int32) (N : Nat) (B : Nat) (N1 : Nat) (B1 : Nat) (N2 : Nat) (B2 : Nat) (K : Nat → Int32) (S : Nat) (M : Nat) (E : Nat → Int32) (Z : Nat → Int32) (sd : Int32) (what : Int32) : Met l yX11_carry (Cond.code yX11_carry cX11_carry 9 (some .int) :: GT) ({ frames := 3, cells := 0, slots := 0, locals := 72 } : Room) (PcI [.ref (ax 112), .int sd, .int what] dC dI G (X11I dC dI G ax T Y fa W0 W1 W2 N B N1 B1 N2 B2 K S M E Z) sz) (va_Qi (fun (r : Int32) (_ : Unit) => True) (fun _ t => X11I dC dI G ax T Y fa W0 W1 W2 N B N1 B1 N2 B2 K S M E Z t.heap) (adX 112 129 ax sz)) 0 0 (adX 112 129 ax sz) := by
  refine Met.pick (fun a st hp => ?_)
  obtain ⟨e0, hsz, hI, hK⟩ := hp
  subst hsz
  have hI0 := hI
  unfold X11I at hI
  obtain ⟨p0, p1, p2, p3, p4, p5, p6, p7, p8, p9, p10, p11, p12, p13, p14, p15, p16, hX⟩ := hI
  unfold X11Pr at p0
  obtain ⟨zi112_4, zi112_5, zi112_6, zi112_7, zi112_8, zi112_9, zi112_13, zi112_14, zi112_15, zn112_16, zi112_17, zi112_18, zi112_34, p0j0, p0j1, p0j2, p0j3, p0j4, p0j5, p0j6, q112⟩ := p0
  unfold X11P0 at p1
  obtain ⟨zf113, p1j0, p1j1, p1j2, p1j3, p1j4, p1j5, p1j6, p1j7, q113⟩ := p1
  refine ⟨_, _, _, c_X11_carry l dC dI G _ (ax 112) (ax 113) N B (ax 114) (ax 115) T (ax 116) (ax 117) (ax 118) (ax 119) (ax 120) (ax 121) S (ax 122) M (ax 123) (ax 124) (ax 125) (ax 126) (ax 127) (ax 128) sd what zi112_4 zi112_5 zi112_6 zi112_7 zi112_8 zi112_9 fa zi112_13 zi112_14 zi112_15 (nI zn112_16) zi112_17 zi112_18 zi112_34 zf113 (by first | with_reducible assumption | assumption) (by first | with_reducible assumption | assumption) (by first | with_reducible assumption | assumption) (by first | with_reducible assumption | assumption) (by first | with_reducible assumption | assumption) (by first | with_reducible assumption | assumption), ⟨e0, rfl, (vpc q112 (vpc q113 va_nilP)), hK⟩, fun q h => Or.inr h, fun o t hq => ?_⟩
  obtain ⟨⟨r, u, ho, ⟨hr, hu⟩, -⟩, hF⟩ := hq
  exact ⟨⟨r, (), ho, trivial, hI0.kept (fun j _ _ h => hF.2 _ h (Nat.not_le.mpr h))⟩, hF.wide (fun q h => Or.inr h)⟩

set_option maxHeartbeats 1000000 in
set_option maxRecDepth 100000 in
theorem k_X11_learnE (l : Launch) (dC : Nat → ClassId) (dI : Nat → Nat → Nat) (G : Nat → ClassId) (sz : Nat) (ax : Nat → Nat) (hi : adInj 129 ax) (T : Nat) (Y : Nat → Int32) (fa : Int32) (W0 : Nat → Int32) (W1 : Nat → Int32) (W2 : Nat → Int32) (N : Nat) (B : Nat) (N1 : Nat) (B1 : Nat) (N2 : Nat) (B2 : Nat) (K : Nat → Int32) (S : Nat) (M : Nat) (E : Nat → Int32) (Z : Nat → Int32) (i : Int32) (g : Int32) (k : Int32) (hm : Int32) : Met l yX11_learn (Cond.code yX11_learn cX11_learn 6 (some .int) :: GT) ({ frames := 3, cells := 0, slots := 0, locals := 69 } : Room) (PcI [.ref (ax 112), .int i, .int g, .int k, .int hm] dC dI G (X11I dC dI G ax T Y fa W0 W1 W2 N B N1 B1 N2 B2 K S M E Z) sz) (va_Qi (fun (r : Int32) (_ : Unit) => r = if ((0 ≤ i.toInt ∧ i.toInt < ((N : Nat) : Int)) ∧ (g.toInt = -4 ∨ (0 ≤ g.toInt ∧ g.toInt < ((B : Nat) : Int))) ∧ (0 ≤ k.toInt ∧ k.toInt < ((B : Nat) : Int)) ∧ 0 ≤ hm.toInt ∧ hm.toInt ≤ 20) then (if S < 8 then nI (S + 1) else -3) else -1) (fun _ t => X11I dC dI G ax T Y fa W0 W1 W2 N B N1 B1 N2 B2 K (if ((0 ≤ i.toInt ∧ i.toInt < ((N : Nat) : Int)) ∧ (g.toInt = -4 ∨ (0 ≤ g.toInt ∧ g.toInt < ((B : Nat) : Int))) ∧ (0 ≤ k.toInt ∧ k.toInt < ((B : Nat) : Int)) ∧ 0 ≤ hm.toInt ∧ hm.toInt ≤ 20) ∧ S < 8 then S + 1 else S) M E Z t.heap) (adX 112 129 ax sz)) 0 0 (adX 112 129 ax sz) := by
  refine Met.pick (fun a st hp => ?_)
  obtain ⟨e0, hsz, hI, hK⟩ := hp
  subst hsz
  have hI0 := hI
  unfold X11I at hI
  obtain ⟨p0, p1, p2, p3, p4, p5, p6, p7, p8, p9, p10, p11, p12, p13, p14, p15, p16, hX⟩ := hI
  unfold X11Pr at p0
  obtain ⟨zi112_4, zi112_5, zi112_6, zi112_7, zi112_8, zi112_9, zi112_13, zi112_14, zi112_15, zn112_16, zi112_17, zi112_18, zi112_34, p0j0, p0j1, p0j2, p0j3, p0j4, p0j5, p0j6, q112⟩ := p0
  unfold X11P24 at p9
  obtain ⟨zf121, p9j0, q121⟩ := p9
  refine ⟨_, _, _, c_X11_learnE l dC dI G _ (ax 112) (ax 113) N B (ax 114) (ax 115) T (ax 116) (ax 117) (ax 118) (ax 119) (ax 120) (ax 121) S (ax 122) M (ax 123) (ax 124) (ax 125) (ax 126) (ax 127) (ax 128) i g k hm zi112_4 zi112_5 zi112_6 zi112_7 zi112_8 zi112_9 fa zi112_13 zi112_14 zi112_15 (nI zn112_16) zi112_17 zi112_18 zi112_34 zf121 (by first | with_reducible assumption | assumption) (by first | with_reducible assumption | assumption) (by first | with_reducible assumption | assumption) (by first | with_reducible assumption | assumption) (by first | with_reducible assumption | assumption) (by first | with_reducible assumption | assumption), ⟨e0, rfl, (vpc q112 (vpc q121 va_nilP)), hK, vD_ix hi [112, 121] (by rfl) (by decide) (by decide)⟩, ad_ix [112, 121] (by rfl) (by decide), fun o t hq => ?_⟩
  obtain ⟨⟨r, ⟨oS, oln⟩, ho, ⟨hr, hu⟩, hP1, -⟩, hF⟩ := hq
  have FR : ∀ lo hi' : Nat, hi' ≤ 129 → ([112, 121] : List Nat).all (fun x => decide (x < lo) || decide (hi' ≤ x)) = true → ∀ j : Nat, lo ≤ j → j < hi' → ax j < st.heap.size → t.heap[ax j]? = st.heap[ax j]? := fun lo hi' h1 h2 => fr_ix hi h1 hF.2 [112, 121] (by rfl) (by decide) h2
  have xS : (if ((0 ≤ i.toInt ∧ i.toInt < ((N : Nat) : Int)) ∧ (g.toInt = -4 ∨ (0 ≤ g.toInt ∧ g.toInt < ((B : Nat) : Int))) ∧ (0 ≤ k.toInt ∧ k.toInt < ((B : Nat) : Int)) ∧ 0 ≤ hm.toInt ∧ hm.toInt ≤ 20) ∧ S < 8 then S + 1 else S) = oS := Eq.symm (by first | exact hu | exact hu.1 | exact hu.2 | exact hu.1.1 | exact hu.1.2 | exact hu.2.1.trans (txt_cf (by first | with_reducible assumption | assumption)) | exact hu.2.1.trans (txt_rf (by first | with_reducible assumption | assumption)) | exact hu.1.1.trans lmap_step | omega)
  subst xS
  have np0 : X11Pr dC dI G ax T fa N B (if ((0 ≤ i.toInt ∧ i.toInt < ((N : Nat) : Int)) ∧ (g.toInt = -4 ∨ (0 ≤ g.toInt ∧ g.toInt < ((B : Nat) : Int))) ∧ (0 ≤ k.toInt ∧ k.toInt < ((B : Nat) : Int)) ∧ 0 ≤ hm.toInt ∧ hm.toInt ≤ 20) ∧ S < 8 then S + 1 else S) M t.heap := ⟨zi112_4, zi112_5, zi112_6, zi112_7, zi112_8, zi112_9, zi112_13, zi112_14, zi112_15, zn112_16, zi112_17, zi112_18, zi112_34, p0j0, p0j1, p0j2, (by first | omega | exact hu | exact hu.1 | exact hu.1.1 | exact hu.1.2 | exact hu.2 | exact hu.1.1.1 | exact hu.1.1.2 | exact fd_nn (by first | with_reducible assumption | assumption) | (split at hu <;> omega) | (split <;> omega) | exact E_inv (by first | with_reducible assumption | assumption)), p0j4, p0j5, p0j6, hP1 0 _ rfl⟩
  have np9 : X11P24 dC dI G ax t.heap := ⟨oln, (by first | omega | exact hu | exact hu.1 | exact hu.1.1 | exact hu.1.2 | exact hu.2 | exact hu.1.1.1 | exact hu.1.1.2 | exact fd_nn (by first | with_reducible assumption | assumption) | (split at hu <;> omega) | (split <;> omega) | exact E_inv (by first | with_reducible assumption | assumption)), hP1 1 _ rfl⟩
  exact ⟨⟨r, (), ho, hr, ⟨np0, p1.kept (FR 113 114 (by decide) (by decide)), p2.kept (FR 114 115 (by decide) (by decide)), p3.kept (FR 115 116 (by decide) (by decide)), p4.kept (FR 116 117 (by decide) (by decide)), p5.kept (FR 117 118 (by decide) (by decide)), p6.kept (FR 118 119 (by decide) (by decide)), p7.kept (FR 119 120 (by decide) (by decide)), p8.kept (FR 120 121 (by decide) (by decide)), np9, p10.kept (FR 122 123 (by decide) (by decide)), p11.kept (FR 123 124 (by decide) (by decide)), p12.kept (FR 124 125 (by decide) (by decide)), p13.kept (FR 125 126 (by decide) (by decide)), p14.kept (FR 126 127 (by decide) (by decide)), p15.kept (FR 127 128 (by decide) (by decide)), p16.kept (FR 128 129 (by decide) (by decide)), hX⟩⟩, hF.wide (ad_ix [112, 121] (by rfl) (by decide))⟩

set_option maxHeartbeats 1000000 in
set_option maxRecDepth 100000 in
theorem k_X11_forgetE (l : Launch) (dC : Nat → ClassId) (dI : Nat → Nat → Nat) (G : Nat → ClassId) (sz : Nat) (ax : Nat → Nat) (hi : adInj 129 ax) (T : Nat) (Y : Nat → Int32) (fa : Int32) (W0 : Nat → Int32) (W1 : Nat → Int32) (W2 : Nat → Int32) (N : Nat) (B : Nat) (N1 : Nat) (B1 : Nat) (N2 : Nat) (B2 : Nat) (K : Nat → Int32) (S : Nat) (M : Nat) (E : Nat → Int32) (Z : Nat → Int32) (n : Int32) : Met l yX11_forget (Cond.code yX11_forget cX11_forget 3 (some .int) :: GT) ({ frames := 1, cells := 0, slots := 0, locals := 25 } : Room) (PcI [.ref (ax 112), .int n] dC dI G (X11I dC dI G ax T Y fa W0 W1 W2 N B N1 B1 N2 B2 K S M E Z) sz) (va_Qi (fun (r : Int32) (_ : Unit) => r = if 0 ≤ n.toInt ∧ n.toInt ≤ ((S : Nat) : Int) then nI S else -1) (fun _ t => X11I dC dI G ax T Y fa W0 W1 W2 N B N1 B1 N2 B2 K (if 0 ≤ n.toInt ∧ n.toInt ≤ ((S : Nat) : Int) then n.toNatClampNeg else S) M E Z t.heap) (adX 112 129 ax sz)) 0 0 (adX 112 129 ax sz) := by
  refine Met.pick (fun a st hp => ?_)
  obtain ⟨e0, hsz, hI, hK⟩ := hp
  subst hsz
  have hI0 := hI
  unfold X11I at hI
  obtain ⟨p0, p1, p2, p3, p4, p5, p6, p7, p8, p9, p10, p11, p12, p13, p14, p15, p16, hX⟩ := hI
  unfold X11Pr at p0
  obtain ⟨zi112_4, zi112_5, zi112_6, zi112_7, zi112_8, zi112_9, zi112_13, zi112_14, zi112_15, zn112_16, zi112_17, zi112_18, zi112_34, p0j0, p0j1, p0j2, p0j3, p0j4, p0j5, p0j6, q112⟩ := p0
  refine ⟨_, _, _, c_X11_forgetE l dC dI G _ (ax 112) (ax 113) N B (ax 114) (ax 115) T (ax 116) (ax 117) (ax 118) (ax 119) (ax 120) (ax 121) S (ax 122) M (ax 123) (ax 124) (ax 125) (ax 126) (ax 127) (ax 128) n zi112_4 zi112_5 zi112_6 zi112_7 zi112_8 zi112_9 fa zi112_13 zi112_14 zi112_15 (nI zn112_16) zi112_17 zi112_18 zi112_34 (by first | with_reducible assumption | assumption) (by first | with_reducible assumption | assumption) (by first | with_reducible assumption | assumption) (by first | with_reducible assumption | assumption) (by first | with_reducible assumption | assumption), ⟨e0, rfl, (vpc q112 va_nilP), hK, vD_ix hi [112] (by rfl) (by decide) (by decide)⟩, ad_ix [112] (by rfl) (by decide), fun o t hq => ?_⟩
  obtain ⟨⟨r, oS, ho, ⟨hr, hu⟩, hP1, -⟩, hF⟩ := hq
  have FR : ∀ lo hi' : Nat, hi' ≤ 129 → ([112] : List Nat).all (fun x => decide (x < lo) || decide (hi' ≤ x)) = true → ∀ j : Nat, lo ≤ j → j < hi' → ax j < st.heap.size → t.heap[ax j]? = st.heap[ax j]? := fun lo hi' h1 h2 => fr_ix hi h1 hF.2 [112] (by rfl) (by decide) h2
  have xS : (if 0 ≤ n.toInt ∧ n.toInt ≤ ((S : Nat) : Int) then n.toNatClampNeg else S) = oS := Eq.symm (by first | exact hu | exact hu.1 | exact hu.2 | exact hu.1.1 | exact hu.1.2 | exact hu.2.1.trans (txt_cf (by first | with_reducible assumption | assumption)) | exact hu.2.1.trans (txt_rf (by first | with_reducible assumption | assumption)) | exact hu.1.1.trans lmap_step | omega)
  subst xS
  have np0 : X11Pr dC dI G ax T fa N B (if 0 ≤ n.toInt ∧ n.toInt ≤ ((S : Nat) : Int) then n.toNatClampNeg else S) M t.heap := ⟨zi112_4, zi112_5, zi112_6, zi112_7, zi112_8, zi112_9, zi112_13, zi112_14, zi112_15, zn112_16, zi112_17, zi112_18, zi112_34, p0j0, p0j1, p0j2, (by first | omega | exact hu | exact hu.1 | exact hu.1.1 | exact hu.1.2 | exact hu.2 | exact hu.1.1.1 | exact hu.1.1.2 | exact fd_nn (by first | with_reducible assumption | assumption) | (split at hu <;> omega) | (split <;> omega) | exact E_inv (by first | with_reducible assumption | assumption)), p0j4, p0j5, p0j6, hP1 0 _ rfl⟩
  exact ⟨⟨r, (), ho, hr, ⟨np0, p1.kept (FR 113 114 (by decide) (by decide)), p2.kept (FR 114 115 (by decide) (by decide)), p3.kept (FR 115 116 (by decide) (by decide)), p4.kept (FR 116 117 (by decide) (by decide)), p5.kept (FR 117 118 (by decide) (by decide)), p6.kept (FR 118 119 (by decide) (by decide)), p7.kept (FR 119 120 (by decide) (by decide)), p8.kept (FR 120 121 (by decide) (by decide)), p9.kept (FR 121 122 (by decide) (by decide)), p10.kept (FR 122 123 (by decide) (by decide)), p11.kept (FR 123 124 (by decide) (by decide)), p12.kept (FR 124 125 (by decide) (by decide)), p13.kept (FR 125 126 (by decide) (by decide)), p14.kept (FR 126 127 (by decide) (by decide)), p15.kept (FR 127 128 (by decide) (by decide)), p16.kept (FR 128 129 (by decide) (by decide)), hX⟩⟩, hF.wide (ad_ix [112] (by rfl) (by decide))⟩

set_option maxHeartbeats 1000000 in
set_option maxRecDepth 100000 in
theorem k_X11_stepsW (l : Launch) (dC : Nat → ClassId) (dI : Nat → Nat → Nat) (G : Nat → ClassId) (sz : Nat) (ax : Nat → Nat) (hi : adInj 129 ax) (T : Nat) (Y : Nat → Int32) (fa : Int32) (W0 : Nat → Int32) (W1 : Nat → Int32) (W2 : Nat → Int32) (N : Nat) (B : Nat) (N1 : Nat) (B1 : Nat) (N2 : Nat) (B2 : Nat) (K : Nat → Int32) (S : Nat) (M : Nat) (E : Nat → Int32) (Z : Nat → Int32) (b : Int32) (what : Int32) : Met l yX11_steps (Cond.code yX11_steps cX11_steps 11 (some .int) :: GT) ({ frames := 2, cells := 0, slots := 0, locals := 50 } : Room) (PcI [.ref (ax 112), .int b, .int what] dC dI G (X11I dC dI G ax T Y fa W0 W1 W2 N B N1 B1 N2 B2 K S M E Z) sz) (va_Qi (fun (r : Int32) (_ : Unit) => True) (fun _ t => X11I dC dI G ax T Y fa W0 W1 W2 N B N1 B1 N2 B2 K S M E Z t.heap) (adX 112 129 ax sz)) 0 0 (adX 112 129 ax sz) := by
  refine Met.pick (fun a st hp => ?_)
  obtain ⟨e0, hsz, hI, hK⟩ := hp
  subst hsz
  have hI0 := hI
  unfold X11I at hI
  obtain ⟨p0, p1, p2, p3, p4, p5, p6, p7, p8, p9, p10, p11, p12, p13, p14, p15, p16, hX⟩ := hI
  unfold X11Pr at p0
  obtain ⟨zi112_4, zi112_5, zi112_6, zi112_7, zi112_8, zi112_9, zi112_13, zi112_14, zi112_15, zn112_16, zi112_17, zi112_18, zi112_34, p0j0, p0j1, p0j2, p0j3, p0j4, p0j5, p0j6, q112⟩ := p0
  unfold X11P0 at p1
  obtain ⟨zf113, p1j0, p1j1, p1j2, p1j3, p1j4, p1j5, p1j6, p1j7, q113⟩ := p1
  unfold X11P24 at p9
  obtain ⟨zf121, p9j0, q121⟩ := p9
  refine ⟨_, _, _, c_X11_stepsW l dC dI G _ (ax 112) (ax 113) N B (ax 114) (ax 115) T (ax 116) (ax 117) (ax 118) (ax 119) (ax 120) (ax 121) S (ax 122) M (ax 123) (ax 124) (ax 125) (ax 126) (ax 127) (ax 128) b what zi112_4 zi112_5 zi112_6 zi112_7 zi112_8 zi112_9 fa zi112_13 zi112_14 zi112_15 (nI zn112_16) zi112_17 zi112_18 zi112_34 zf113 zf121 (by first | with_reducible assumption | assumption) (by first | with_reducible assumption | assumption) (by first | with_reducible assumption | assumption) (by first | with_reducible assumption | assumption) (by first | with_reducible assumption | assumption) (by first | with_reducible assumption | assumption) (by first | with_reducible assumption | assumption), ⟨e0, rfl, (vpc q112 (vpc q113 (vpc q121 va_nilP))), hK, vD_ix hi [112, 113, 121] (by rfl) (by decide) (by decide)⟩, ad_ix [112, 113, 121] (by rfl) (by decide), fun o t hq => ?_⟩
  obtain ⟨⟨r, ost, ho, ⟨hr, hu⟩, hP1, -⟩, hF⟩ := hq
  have FR : ∀ lo hi' : Nat, hi' ≤ 129 → ([112, 113, 121] : List Nat).all (fun x => decide (x < lo) || decide (hi' ≤ x)) = true → ∀ j : Nat, lo ≤ j → j < hi' → ax j < st.heap.size → t.heap[ax j]? = st.heap[ax j]? := fun lo hi' h1 h2 => fr_ix hi h1 hF.2 [112, 113, 121] (by rfl) (by decide) h2
  have np0 : X11Pr dC dI G ax T fa N B S M t.heap := ⟨zi112_4, zi112_5, zi112_6, zi112_7, zi112_8, zi112_9, zi112_13, zi112_14, zi112_15, zn112_16, zi112_17, zi112_18, zi112_34, p0j0, p0j1, p0j2, p0j3, p0j4, p0j5, p0j6, hP1 0 _ rfl⟩
  have np1 : X11P0 dC dI G ax W0 W1 W2 N B N1 B1 N2 B2 t.heap := ⟨ost, p1j0, p1j1, p1j2, p1j3, (SR.no3 (by first | with_reducible assumption | assumption) (fun q9 _ _ => hu.2 q9) (by first | with_reducible assumption | assumption) (by first | with_reducible assumption | assumption) (by omega)), (SR.no3 (by first | with_reducible assumption | assumption) (fun q9 _ _ => hu.2 q9) (by first | with_reducible assumption | assumption) (by first | with_reducible assumption | assumption) (by omega)), (SR.no3 (by first | with_reducible assumption | assumption) (fun q9 _ _ => hu.2 q9) (by first | with_reducible assumption | assumption) (by first | with_reducible assumption | assumption) (by omega)), (by first | omega | exact hu | exact hu.1 | exact hu.1.1 | exact hu.1.2 | exact hu.2 | exact hu.1.1.1 | exact hu.1.1.2 | exact fd_nn (by first | with_reducible assumption | assumption) | (split at hu <;> omega) | (split <;> omega) | exact E_inv (by first | with_reducible assumption | assumption)), hP1 1 _ rfl⟩
  have np9 : X11P24 dC dI G ax t.heap := ⟨zf121, p9j0, hP1 2 _ rfl⟩
  exact ⟨⟨r, (), ho, trivial, ⟨np0, np1, p2.kept (FR 114 115 (by decide) (by decide)), p3.kept (FR 115 116 (by decide) (by decide)), p4.kept (FR 116 117 (by decide) (by decide)), p5.kept (FR 117 118 (by decide) (by decide)), p6.kept (FR 118 119 (by decide) (by decide)), p7.kept (FR 119 120 (by decide) (by decide)), p8.kept (FR 120 121 (by decide) (by decide)), np9, p10.kept (FR 122 123 (by decide) (by decide)), p11.kept (FR 123 124 (by decide) (by decide)), p12.kept (FR 124 125 (by decide) (by decide)), p13.kept (FR 125 126 (by decide) (by decide)), p14.kept (FR 126 127 (by decide) (by decide)), p15.kept (FR 127 128 (by decide) (by decide)), p16.kept (FR 128 129 (by decide) (by decide)), hX⟩⟩, hF.wide (ad_ix [112, 113, 121] (by rfl) (by decide))⟩

set_option maxHeartbeats 1000000 in
set_option maxRecDepth 100000 in
theorem k_X11_markE (l : Launch) (dC : Nat → ClassId) (dI : Nat → Nat → Nat) (G : Nat → ClassId) (sz : Nat) (ax : Nat → Nat) (hi : adInj 129 ax) (T : Nat) (Y : Nat → Int32) (fa : Int32) (W0 : Nat → Int32) (W1 : Nat → Int32) (W2 : Nat → Int32) (N : Nat) (B : Nat) (N1 : Nat) (B1 : Nat) (N2 : Nat) (B2 : Nat) (K : Nat → Int32) (S : Nat) (M : Nat) (E : Nat → Int32) (Z : Nat → Int32) (i : Int32) (d : Int32) : Met l yX11_mark (Cond.code yX11_mark cX11_mark 3 (some .int) :: GT) ({ frames := 2, cells := 0, slots := 0, locals := 46 } : Room) (PcI [.ref (ax 112), .int i, .int d] dC dI G (X11I dC dI G ax T Y fa W0 W1 W2 N B N1 B1 N2 B2 K S M E Z) sz) (va_Qi (fun (r : Int32) (_ : Unit) => r = if ((0 ≤ i.toInt ∧ i.toInt < ((N : Nat) : Int)) ∧ 0 ≤ d.toInt ∧ d.toInt ≤ 9) then (if M < 6 then nI (M + 1) else -3) else -1) (fun _ t => X11I dC dI G ax T Y fa W0 W1 W2 N B N1 B1 N2 B2 K S (if ((0 ≤ i.toInt ∧ i.toInt < ((N : Nat) : Int)) ∧ 0 ≤ d.toInt ∧ d.toInt ≤ 9) ∧ M < 6 then M + 1 else M) E Z t.heap) (adX 112 129 ax sz)) 0 0 (adX 112 129 ax sz) := by
  refine Met.pick (fun a st hp => ?_)
  obtain ⟨e0, hsz, hI, hK⟩ := hp
  subst hsz
  have hI0 := hI
  unfold X11I at hI
  obtain ⟨p0, p1, p2, p3, p4, p5, p6, p7, p8, p9, p10, p11, p12, p13, p14, p15, p16, hX⟩ := hI
  unfold X11Pr at p0
  obtain ⟨zi112_4, zi112_5, zi112_6, zi112_7, zi112_8, zi112_9, zi112_13, zi112_14, zi112_15, zn112_16, zi112_17, zi112_18, zi112_34, p0j0, p0j1, p0j2, p0j3, p0j4, p0j5, p0j6, q112⟩ := p0
  unfold X11P26 at p10
  obtain ⟨zf122, q122⟩ := p10
  refine ⟨_, _, _, c_X11_markE l dC dI G _ (ax 112) (ax 113) N B (ax 114) (ax 115) T (ax 116) (ax 117) (ax 118) (ax 119) (ax 120) (ax 121) S (ax 122) M (ax 123) (ax 124) (ax 125) (ax 126) (ax 127) (ax 128) i d zi112_4 zi112_5 zi112_6 zi112_7 zi112_8 zi112_9 fa zi112_13 zi112_14 zi112_15 (nI zn112_16) zi112_17 zi112_18 zi112_34 zf122 (by first | with_reducible assumption | assumption) (by first | with_reducible assumption | assumption) (by first | with_reducible assumption | assumption) (by first | with_reducible assumption | assumption) (by first | with_reducible assumption | assumption), ⟨e0, rfl, (vpc q112 (vpc q122 va_nilP)), hK, vD_ix hi [112, 122] (by rfl) (by decide) (by decide)⟩, ad_ix [112, 122] (by rfl) (by decide), fun o t hq => ?_⟩
  obtain ⟨⟨r, ⟨oM, oma⟩, ho, ⟨hr, hu⟩, hP1, -⟩, hF⟩ := hq
  have FR : ∀ lo hi' : Nat, hi' ≤ 129 → ([112, 122] : List Nat).all (fun x => decide (x < lo) || decide (hi' ≤ x)) = true → ∀ j : Nat, lo ≤ j → j < hi' → ax j < st.heap.size → t.heap[ax j]? = st.heap[ax j]? := fun lo hi' h1 h2 => fr_ix hi h1 hF.2 [112, 122] (by rfl) (by decide) h2
  have xM : (if ((0 ≤ i.toInt ∧ i.toInt < ((N : Nat) : Int)) ∧ 0 ≤ d.toInt ∧ d.toInt ≤ 9) ∧ M < 6 then M + 1 else M) = oM := Eq.symm (by first | exact hu | exact hu.1 | exact hu.2 | exact hu.1.1 | exact hu.1.2 | exact hu.2.1.trans (txt_cf (by first | with_reducible assumption | assumption)) | exact hu.2.1.trans (txt_rf (by first | with_reducible assumption | assumption)) | exact hu.1.1.trans lmap_step | omega)
  subst xM
  have np0 : X11Pr dC dI G ax T fa N B S (if ((0 ≤ i.toInt ∧ i.toInt < ((N : Nat) : Int)) ∧ 0 ≤ d.toInt ∧ d.toInt ≤ 9) ∧ M < 6 then M + 1 else M) t.heap := ⟨zi112_4, zi112_5, zi112_6, zi112_7, zi112_8, zi112_9, zi112_13, zi112_14, zi112_15, zn112_16, zi112_17, zi112_18, zi112_34, p0j0, p0j1, p0j2, p0j3, (by first | omega | exact hu | exact hu.1 | exact hu.1.1 | exact hu.1.2 | exact hu.2 | exact hu.1.1.1 | exact hu.1.1.2 | exact fd_nn (by first | with_reducible assumption | assumption) | (split at hu <;> omega) | (split <;> omega) | exact E_inv (by first | with_reducible assumption | assumption)), p0j5, p0j6, hP1 0 _ rfl⟩
  have np10 : X11P26 dC dI G ax t.heap := ⟨oma, hP1 1 _ rfl⟩
  exact ⟨⟨r, (), ho, hr, ⟨np0, p1.kept (FR 113 114 (by decide) (by decide)), p2.kept (FR 114 115 (by decide) (by decide)), p3.kept (FR 115 116 (by decide) (by decide)), p4.kept (FR 116 117 (by decide) (by decide)), p5.kept (FR 117 118 (by decide) (by decide)), p6.kept (FR 118 119 (by decide) (by decide)), p7.kept (FR 119 120 (by decide) (by decide)), p8.kept (FR 120 121 (by decide) (by decide)), p9.kept (FR 121 122 (by decide) (by decide)), np10, p11.kept (FR 123 124 (by decide) (by decide)), p12.kept (FR 124 125 (by decide) (by decide)), p13.kept (FR 125 126 (by decide) (by decide)), p14.kept (FR 126 127 (by decide) (by decide)), p15.kept (FR 127 128 (by decide) (by decide)), p16.kept (FR 128 129 (by decide) (by decide)), hX⟩⟩, hF.wide (ad_ix [112, 122] (by rfl) (by decide))⟩

set_option maxHeartbeats 1000000 in
set_option maxRecDepth 100000 in
theorem k_X11_wipeE (l : Launch) (dC : Nat → ClassId) (dI : Nat → Nat → Nat) (G : Nat → ClassId) (sz : Nat) (ax : Nat → Nat) (hi : adInj 129 ax) (T : Nat) (Y : Nat → Int32) (fa : Int32) (W0 : Nat → Int32) (W1 : Nat → Int32) (W2 : Nat → Int32) (N : Nat) (B : Nat) (N1 : Nat) (B1 : Nat) (N2 : Nat) (B2 : Nat) (K : Nat → Int32) (S : Nat) (M : Nat) (E : Nat → Int32) (Z : Nat → Int32) (n : Int32) : Met l yX11_wipe (Cond.code yX11_wipe cX11_wipe 3 (some .int) :: GT) ({ frames := 1, cells := 0, slots := 0, locals := 25 } : Room) (PcI [.ref (ax 112), .int n] dC dI G (X11I dC dI G ax T Y fa W0 W1 W2 N B N1 B1 N2 B2 K S M E Z) sz) (va_Qi (fun (r : Int32) (_ : Unit) => r = if 0 ≤ n.toInt ∧ n.toInt ≤ ((M : Nat) : Int) then nI M else -1) (fun _ t => X11I dC dI G ax T Y fa W0 W1 W2 N B N1 B1 N2 B2 K S (if 0 ≤ n.toInt ∧ n.toInt ≤ ((M : Nat) : Int) then n.toNatClampNeg else M) E Z t.heap) (adX 112 129 ax sz)) 0 0 (adX 112 129 ax sz) := by
  refine Met.pick (fun a st hp => ?_)
  obtain ⟨e0, hsz, hI, hK⟩ := hp
  subst hsz
  have hI0 := hI
  unfold X11I at hI
  obtain ⟨p0, p1, p2, p3, p4, p5, p6, p7, p8, p9, p10, p11, p12, p13, p14, p15, p16, hX⟩ := hI
  unfold X11Pr at p0
  obtain ⟨zi112_4, zi112_5, zi112_6, zi112_7, zi112_8, zi112_9, zi112_13, zi112_14, zi112_15, zn112_16, zi112_17, zi112_18, zi112_34, p0j0, p0j1, p0j2, p0j3, p0j4, p0j5, p0j6, q112⟩ := p0
  refine ⟨_, _, _, c_X11_wipeE l dC dI G _ (ax 112) (ax 113) N B (ax 114) (ax 115) T (ax 116) (ax 117) (ax 118) (ax 119) (ax 120) (ax 121) S (ax 122) M (ax 123) (ax 124) (ax 125) (ax 126) (ax 127) (ax 128) n zi112_4 zi112_5 zi112_6 zi112_7 zi112_8 zi112_9 fa zi112_13 zi112_14 zi112_15 (nI zn112_16) zi112_17 zi112_18 zi112_34 (by first | with_reducible assumption | assumption) (by first | with_reducible assumption | assumption) (by first | with_reducible assumption | assumption) (by first | with_reducible assumption | assumption) (by first | with_reducible assumption | assumption), ⟨e0, rfl, (vpc q112 va_nilP), hK, vD_ix hi [112] (by rfl) (by decide) (by decide)⟩, ad_ix [112] (by rfl) (by decide), fun o t hq => ?_⟩
  obtain ⟨⟨r, oM, ho, ⟨hr, hu⟩, hP1, -⟩, hF⟩ := hq
  have FR : ∀ lo hi' : Nat, hi' ≤ 129 → ([112] : List Nat).all (fun x => decide (x < lo) || decide (hi' ≤ x)) = true → ∀ j : Nat, lo ≤ j → j < hi' → ax j < st.heap.size → t.heap[ax j]? = st.heap[ax j]? := fun lo hi' h1 h2 => fr_ix hi h1 hF.2 [112] (by rfl) (by decide) h2
  have xM : (if 0 ≤ n.toInt ∧ n.toInt ≤ ((M : Nat) : Int) then n.toNatClampNeg else M) = oM := Eq.symm (by first | exact hu | exact hu.1 | exact hu.2 | exact hu.1.1 | exact hu.1.2 | exact hu.2.1.trans (txt_cf (by first | with_reducible assumption | assumption)) | exact hu.2.1.trans (txt_rf (by first | with_reducible assumption | assumption)) | exact hu.1.1.trans lmap_step | omega)
  subst xM
  have np0 : X11Pr dC dI G ax T fa N B S (if 0 ≤ n.toInt ∧ n.toInt ≤ ((M : Nat) : Int) then n.toNatClampNeg else M) t.heap := ⟨zi112_4, zi112_5, zi112_6, zi112_7, zi112_8, zi112_9, zi112_13, zi112_14, zi112_15, zn112_16, zi112_17, zi112_18, zi112_34, p0j0, p0j1, p0j2, p0j3, (by first | omega | exact hu | exact hu.1 | exact hu.1.1 | exact hu.1.2 | exact hu.2 | exact hu.1.1.1 | exact hu.1.1.2 | exact fd_nn (by first | with_reducible assumption | assumption) | (split at hu <;> omega) | (split <;> omega) | exact E_inv (by first | with_reducible assumption | assumption)), p0j5, p0j6, hP1 0 _ rfl⟩
  exact ⟨⟨r, (), ho, hr, ⟨np0, p1.kept (FR 113 114 (by decide) (by decide)), p2.kept (FR 114 115 (by decide) (by decide)), p3.kept (FR 115 116 (by decide) (by decide)), p4.kept (FR 116 117 (by decide) (by decide)), p5.kept (FR 117 118 (by decide) (by decide)), p6.kept (FR 118 119 (by decide) (by decide)), p7.kept (FR 119 120 (by decide) (by decide)), p8.kept (FR 120 121 (by decide) (by decide)), p9.kept (FR 121 122 (by decide) (by decide)), p10.kept (FR 122 123 (by decide) (by decide)), p11.kept (FR 123 124 (by decide) (by decide)), p12.kept (FR 124 125 (by decide) (by decide)), p13.kept (FR 125 126 (by decide) (by decide)), p14.kept (FR 126 127 (by decide) (by decide)), p15.kept (FR 127 128 (by decide) (by decide)), p16.kept (FR 128 129 (by decide) (by decide)), hX⟩⟩, hF.wide (ad_ix [112] (by rfl) (by decide))⟩

set_option maxHeartbeats 1000000 in
set_option maxRecDepth 100000 in
theorem k_X11_paths (l : Launch) (dC : Nat → ClassId) (dI : Nat → Nat → Nat) (G : Nat → ClassId) (sz : Nat) (ax : Nat → Nat) (hi : adInj 129 ax) (T : Nat) (Y : Nat → Int32) (fa : Int32) (W0 : Nat → Int32) (W1 : Nat → Int32) (W2 : Nat → Int32) (N : Nat) (B : Nat) (N1 : Nat) (B1 : Nat) (N2 : Nat) (B2 : Nat) (K : Nat → Int32) (S : Nat) (M : Nat) (E : Nat → Int32) (Z : Nat → Int32) : Met l yX11_paths (Cond.code yX11_paths cX11_paths 1 (some .int) :: GT) ({ frames := 6, cells := 0, slots := 0, locals := 146 } : Room) (PcI [.ref (ax 112)] dC dI G (X11I dC dI G ax T Y fa W0 W1 W2 N B N1 B1 N2 B2 K S M E Z) sz) (va_Qi (fun (r : Int32) (_ : Unit) => True) (fun _ t => X11I dC dI G ax T Y fa W0 W1 W2 N B N1 B1 N2 B2 K S M E Z t.heap) (adX 112 129 ax sz)) 0 0 (adX 112 129 ax sz) := by
  refine Met.pick (fun a st hp => ?_)
  obtain ⟨e0, hsz, hI, hK⟩ := hp
  subst hsz
  have hI0 := hI
  unfold X11I at hI
  obtain ⟨p0, p1, p2, p3, p4, p5, p6, p7, p8, p9, p10, p11, p12, p13, p14, p15, p16, hX⟩ := hI
  unfold X11Pr at p0
  obtain ⟨zi112_4, zi112_5, zi112_6, zi112_7, zi112_8, zi112_9, zi112_13, zi112_14, zi112_15, zn112_16, zi112_17, zi112_18, zi112_34, p0j0, p0j1, p0j2, p0j3, p0j4, p0j5, p0j6, q112⟩ := p0
  unfold X11P0 at p1
  obtain ⟨zf113, p1j0, p1j1, p1j2, p1j3, p1j4, p1j5, p1j6, p1j7, q113⟩ := p1
  unfold X11P26 at p10
  obtain ⟨zf122, q122⟩ := p10
  unfold X11P28 at p11
  obtain ⟨zf123, q123⟩ := p11
  unfold X11P29 at p12
  obtain ⟨zf124, q124⟩ := p12
  refine ⟨_, _, _, c_X11_paths l dC dI G _ (ax 112) (ax 113) N B (ax 114) (ax 115) T (ax 116) (ax 117) (ax 118) (ax 119) (ax 120) (ax 121) S (ax 122) M (ax 123) (ax 124) (ax 125) (ax 126) (ax 127) (ax 128) zi112_4 zi112_5 zi112_6 zi112_7 zi112_8 zi112_9 fa zi112_13 zi112_14 zi112_15 (nI zn112_16) zi112_17 zi112_18 zi112_34 zf113 zf122 zf123 zf124 (by first | with_reducible assumption | assumption) (by first | with_reducible assumption | assumption) (by first | with_reducible assumption | assumption) (by first | with_reducible assumption | assumption) (by first | with_reducible assumption | assumption) (by first | with_reducible assumption | assumption), ⟨e0, rfl, (vpc q112 (vpc q113 (vpc q122 (vpc q123 (vpc q124 va_nilP))))), hK, vD_ix hi [112, 113, 122, 123, 124] (by rfl) (by decide) (by decide)⟩, ad_ix [112, 113, 122, 123, 124] (by rfl) (by decide), fun o t hq => ?_⟩
  obtain ⟨⟨r, ⟨oah, obh⟩, ho, ⟨hr, hu⟩, hP1, -⟩, hF⟩ := hq
  have FR : ∀ lo hi' : Nat, hi' ≤ 129 → ([112, 113, 122, 123, 124] : List Nat).all (fun x => decide (x < lo) || decide (hi' ≤ x)) = true → ∀ j : Nat, lo ≤ j → j < hi' → ax j < st.heap.size → t.heap[ax j]? = st.heap[ax j]? := fun lo hi' h1 h2 => fr_ix hi h1 hF.2 [112, 113, 122, 123, 124] (by rfl) (by decide) h2
  have np0 : X11Pr dC dI G ax T fa N B S M t.heap := ⟨zi112_4, zi112_5, zi112_6, zi112_7, zi112_8, zi112_9, zi112_13, zi112_14, zi112_15, zn112_16, zi112_17, zi112_18, zi112_34, p0j0, p0j1, p0j2, p0j3, p0j4, p0j5, p0j6, hP1 0 _ rfl⟩
  have np1 : X11P0 dC dI G ax W0 W1 W2 N B N1 B1 N2 B2 t.heap := ⟨zf113, p1j0, p1j1, p1j2, p1j3, p1j4, p1j5, p1j6, p1j7, hP1 1 _ rfl⟩
  have np10 : X11P26 dC dI G ax t.heap := ⟨zf122, hP1 2 _ rfl⟩
  have np11 : X11P28 dC dI G ax t.heap := ⟨oah, hP1 3 _ rfl⟩
  have np12 : X11P29 dC dI G ax t.heap := ⟨obh, hP1 4 _ rfl⟩
  exact ⟨⟨r, (), ho, trivial, ⟨np0, np1, p2.kept (FR 114 115 (by decide) (by decide)), p3.kept (FR 115 116 (by decide) (by decide)), p4.kept (FR 116 117 (by decide) (by decide)), p5.kept (FR 117 118 (by decide) (by decide)), p6.kept (FR 118 119 (by decide) (by decide)), p7.kept (FR 119 120 (by decide) (by decide)), p8.kept (FR 120 121 (by decide) (by decide)), p9.kept (FR 121 122 (by decide) (by decide)), np10, np11, np12, p13.kept (FR 125 126 (by decide) (by decide)), p14.kept (FR 126 127 (by decide) (by decide)), p15.kept (FR 127 128 (by decide) (by decide)), p16.kept (FR 128 129 (by decide) (by decide)), hX⟩⟩, hF.wide (ad_ix [112, 113, 122, 123, 124] (by rfl) (by decide))⟩

set_option maxHeartbeats 1000000 in
set_option maxRecDepth 100000 in
theorem k_X11_eye (l : Launch) (dC : Nat → ClassId) (dI : Nat → Nat → Nat) (G : Nat → ClassId) (sz : Nat) (ax : Nat → Nat) (hi : adInj 129 ax) (T : Nat) (Y : Nat → Int32) (fa : Int32) (W0 : Nat → Int32) (W1 : Nat → Int32) (W2 : Nat → Int32) (N : Nat) (B : Nat) (N1 : Nat) (B1 : Nat) (N2 : Nat) (B2 : Nat) (K : Nat → Int32) (S : Nat) (M : Nat) (E : Nat → Int32) (Z : Nat → Int32) (d : Int32) : Met l yX11_eye (Cond.code yX11_eye cX11_eye 4 (some .int) :: GT) ({ frames := 6, cells := 0, slots := 0, locals := 146 } : Room) (PcI [.ref (ax 112), .int d] dC dI G (X11I dC dI G ax T Y fa W0 W1 W2 N B N1 B1 N2 B2 K S M E Z) sz) (va_Qi (fun (r : Int32) (_ : Unit) => True) (fun _ t => X11I dC dI G ax T Y fa W0 W1 W2 N B N1 B1 N2 B2 K S M E Z t.heap) (adX 112 129 ax sz)) 0 0 (adX 112 129 ax sz) := by
  refine Met.pick (fun a st hp => ?_)
  obtain ⟨e0, hsz, hI, hK⟩ := hp
  subst hsz
  have hI0 := hI
  unfold X11I at hI
  obtain ⟨p0, p1, p2, p3, p4, p5, p6, p7, p8, p9, p10, p11, p12, p13, p14, p15, p16, hX⟩ := hI
  unfold X11Pr at p0
  obtain ⟨zi112_4, zi112_5, zi112_6, zi112_7, zi112_8, zi112_9, zi112_13, zi112_14, zi112_15, zn112_16, zi112_17, zi112_18, zi112_34, p0j0, p0j1, p0j2, p0j3, p0j4, p0j5, p0j6, q112⟩ := p0
  unfold X11P0 at p1
  obtain ⟨zf113, p1j0, p1j1, p1j2, p1j3, p1j4, p1j5, p1j6, p1j7, q113⟩ := p1
  unfold X11P26 at p10
  obtain ⟨zf122, q122⟩ := p10
  unfold X11P28 at p11
  obtain ⟨zf123, q123⟩ := p11
  unfold X11P29 at p12
  obtain ⟨zf124, q124⟩ := p12
  refine ⟨_, _, _, c_X11_eye l dC dI G _ (ax 112) (ax 113) N B (ax 114) (ax 115) T (ax 116) (ax 117) (ax 118) (ax 119) (ax 120) (ax 121) S (ax 122) M (ax 123) (ax 124) (ax 125) (ax 126) (ax 127) (ax 128) d zi112_4 zi112_5 zi112_6 zi112_7 zi112_8 zi112_9 fa zi112_13 zi112_14 zi112_15 (nI zn112_16) zi112_17 zi112_18 zi112_34 zf113 zf122 zf123 zf124 (by first | with_reducible assumption | assumption) (by first | with_reducible assumption | assumption) (by first | with_reducible assumption | assumption) (by first | with_reducible assumption | assumption) (by first | with_reducible assumption | assumption) (by first | with_reducible assumption | assumption), ⟨e0, rfl, (vpc q112 (vpc q113 (vpc q122 (vpc q123 (vpc q124 va_nilP))))), hK, vD_ix hi [112, 113, 122, 123, 124] (by rfl) (by decide) (by decide)⟩, ad_ix [112, 113, 122, 123, 124] (by rfl) (by decide), fun o t hq => ?_⟩
  obtain ⟨⟨r, ⟨oah, obh⟩, ho, ⟨hr, hu⟩, hP1, -⟩, hF⟩ := hq
  have FR : ∀ lo hi' : Nat, hi' ≤ 129 → ([112, 113, 122, 123, 124] : List Nat).all (fun x => decide (x < lo) || decide (hi' ≤ x)) = true → ∀ j : Nat, lo ≤ j → j < hi' → ax j < st.heap.size → t.heap[ax j]? = st.heap[ax j]? := fun lo hi' h1 h2 => fr_ix hi h1 hF.2 [112, 113, 122, 123, 124] (by rfl) (by decide) h2
  have np0 : X11Pr dC dI G ax T fa N B S M t.heap := ⟨zi112_4, zi112_5, zi112_6, zi112_7, zi112_8, zi112_9, zi112_13, zi112_14, zi112_15, zn112_16, zi112_17, zi112_18, zi112_34, p0j0, p0j1, p0j2, p0j3, p0j4, p0j5, p0j6, hP1 0 _ rfl⟩
  have np1 : X11P0 dC dI G ax W0 W1 W2 N B N1 B1 N2 B2 t.heap := ⟨zf113, p1j0, p1j1, p1j2, p1j3, p1j4, p1j5, p1j6, p1j7, hP1 1 _ rfl⟩
  have np10 : X11P26 dC dI G ax t.heap := ⟨zf122, hP1 2 _ rfl⟩
  have np11 : X11P28 dC dI G ax t.heap := ⟨oah, hP1 3 _ rfl⟩
  have np12 : X11P29 dC dI G ax t.heap := ⟨obh, hP1 4 _ rfl⟩
  exact ⟨⟨r, (), ho, trivial, ⟨np0, np1, p2.kept (FR 114 115 (by decide) (by decide)), p3.kept (FR 115 116 (by decide) (by decide)), p4.kept (FR 116 117 (by decide) (by decide)), p5.kept (FR 117 118 (by decide) (by decide)), p6.kept (FR 118 119 (by decide) (by decide)), p7.kept (FR 119 120 (by decide) (by decide)), p8.kept (FR 120 121 (by decide) (by decide)), p9.kept (FR 121 122 (by decide) (by decide)), np10, np11, np12, p13.kept (FR 125 126 (by decide) (by decide)), p14.kept (FR 126 127 (by decide) (by decide)), p15.kept (FR 127 128 (by decide) (by decide)), p16.kept (FR 128 129 (by decide) (by decide)), hX⟩⟩, hF.wide (ad_ix [112, 113, 122, 123, 124] (by rfl) (by decide))⟩

set_option maxHeartbeats 1000000 in
set_option maxRecDepth 100000 in
theorem k_X11_sure (l : Launch) (dC : Nat → ClassId) (dI : Nat → Nat → Nat) (G : Nat → ClassId) (sz : Nat) (ax : Nat → Nat) (hi : adInj 129 ax) (T : Nat) (Y : Nat → Int32) (fa : Int32) (W0 : Nat → Int32) (W1 : Nat → Int32) (W2 : Nat → Int32) (N : Nat) (B : Nat) (N1 : Nat) (B1 : Nat) (N2 : Nat) (B2 : Nat) (K : Nat → Int32) (S : Nat) (M : Nat) (E : Nat → Int32) (Z : Nat → Int32) (what : Int32) : Met l yX11_sure (Cond.code yX11_sure cX11_sure 7 (some .int) :: GT) ({ frames := 6, cells := 0, slots := 0, locals := 146 } : Room) (PcI [.ref (ax 112), .int what] dC dI G (X11I dC dI G ax T Y fa W0 W1 W2 N B N1 B1 N2 B2 K S M E Z) sz) (va_Qi (fun (r : Int32) (_ : Unit) => True) (fun _ t => X11I dC dI G ax T Y fa W0 W1 W2 N B N1 B1 N2 B2 K S M E Z t.heap) (adX 112 129 ax sz)) 0 0 (adX 112 129 ax sz) := by
  refine Met.pick (fun a st hp => ?_)
  obtain ⟨e0, hsz, hI, hK⟩ := hp
  subst hsz
  have hI0 := hI
  unfold X11I at hI
  obtain ⟨p0, p1, p2, p3, p4, p5, p6, p7, p8, p9, p10, p11, p12, p13, p14, p15, p16, hX⟩ := hI
  unfold X11Pr at p0
  obtain ⟨zi112_4, zi112_5, zi112_6, zi112_7, zi112_8, zi112_9, zi112_13, zi112_14, zi112_15, zn112_16, zi112_17, zi112_18, zi112_34, p0j0, p0j1, p0j2, p0j3, p0j4, p0j5, p0j6, q112⟩ := p0
  unfold X11P0 at p1
  obtain ⟨zf113, p1j0, p1j1, p1j2, p1j3, p1j4, p1j5, p1j6, p1j7, q113⟩ := p1
  unfold X11P26 at p10
  obtain ⟨zf122, q122⟩ := p10
  unfold X11P28 at p11
  obtain ⟨zf123, q123⟩ := p11
  unfold X11P29 at p12
  obtain ⟨zf124, q124⟩ := p12
  refine ⟨_, _, _, c_X11_sure l dC dI G _ (ax 112) (ax 113) N B (ax 114) (ax 115) T (ax 116) (ax 117) (ax 118) (ax 119) (ax 120) (ax 121) S (ax 122) M (ax 123) (ax 124) (ax 125) (ax 126) (ax 127) (ax 128) what zi112_4 zi112_5 zi112_6 zi112_7 zi112_8 zi112_9 fa zi112_13 zi112_14 zi112_15 (nI zn112_16) zi112_17 zi112_18 zi112_34 zf113 zf122 zf123 zf124 (by first | with_reducible assumption | assumption) (by first | with_reducible assumption | assumption) (by first | with_reducible assumption | assumption) (by first | with_reducible assumption | assumption) (by first | with_reducible assumption | assumption) (by first | with_reducible assumption | assumption), ⟨e0, rfl, (vpc q112 (vpc q113 (vpc q122 (vpc q123 (vpc q124 va_nilP))))), hK, vD_ix hi [112, 113, 122, 123, 124] (by rfl) (by decide) (by decide)⟩, ad_ix [112, 113, 122, 123, 124] (by rfl) (by decide), fun o t hq => ?_⟩
  obtain ⟨⟨r, ⟨oah, obh⟩, ho, ⟨hr, hu⟩, hP1, -⟩, hF⟩ := hq
  have FR : ∀ lo hi' : Nat, hi' ≤ 129 → ([112, 113, 122, 123, 124] : List Nat).all (fun x => decide (x < lo) || decide (hi' ≤ x)) = true → ∀ j : Nat, lo ≤ j → j < hi' → ax j < st.heap.size → t.heap[ax j]? = st.heap[ax j]? := fun lo hi' h1 h2 => fr_ix hi h1 hF.2 [112, 113, 122, 123, 124] (by rfl) (by decide) h2
  have np0 : X11Pr dC dI G ax T fa N B S M t.heap := ⟨zi112_4, zi112_5, zi112_6, zi112_7, zi112_8, zi112_9, zi112_13, zi112_14, zi112_15, zn112_16, zi112_17, zi112_18, zi112_34, p0j0, p0j1, p0j2, p0j3, p0j4, p0j5, p0j6, hP1 0 _ rfl⟩
  have np1 : X11P0 dC dI G ax W0 W1 W2 N B N1 B1 N2 B2 t.heap := ⟨zf113, p1j0, p1j1, p1j2, p1j3, p1j4, p1j5, p1j6, p1j7, hP1 1 _ rfl⟩
  have np10 : X11P26 dC dI G ax t.heap := ⟨zf122, hP1 2 _ rfl⟩
  have np11 : X11P28 dC dI G ax t.heap := ⟨oah, hP1 3 _ rfl⟩
  have np12 : X11P29 dC dI G ax t.heap := ⟨obh, hP1 4 _ rfl⟩
  exact ⟨⟨r, (), ho, trivial, ⟨np0, np1, p2.kept (FR 114 115 (by decide) (by decide)), p3.kept (FR 115 116 (by decide) (by decide)), p4.kept (FR 116 117 (by decide) (by decide)), p5.kept (FR 117 118 (by decide) (by decide)), p6.kept (FR 118 119 (by decide) (by decide)), p7.kept (FR 119 120 (by decide) (by decide)), p8.kept (FR 120 121 (by decide) (by decide)), p9.kept (FR 121 122 (by decide) (by decide)), np10, np11, np12, p13.kept (FR 125 126 (by decide) (by decide)), p14.kept (FR 126 127 (by decide) (by decide)), p15.kept (FR 127 128 (by decide) (by decide)), p16.kept (FR 128 129 (by decide) (by decide)), hX⟩⟩, hF.wide (ad_ix [112, 113, 122, 123, 124] (by rfl) (by decide))⟩

set_option maxHeartbeats 1000000 in
set_option maxRecDepth 100000 in
theorem k_X11_keepW (l : Launch) (dC : Nat → ClassId) (dI : Nat → Nat → Nat) (G : Nat → ClassId) (sz : Nat) (ax : Nat → Nat) (hi : adInj 129 ax) (T : Nat) (Y : Nat → Int32) (fa : Int32) (W0 : Nat → Int32) (W1 : Nat → Int32) (W2 : Nat → Int32) (N : Nat) (B : Nat) (N1 : Nat) (B1 : Nat) (N2 : Nat) (B2 : Nat) (K : Nat → Int32) (S : Nat) (M : Nat) (E : Nat → Int32) (Z : Nat → Int32) (k : Int32) : Met l yX11_keep (Cond.code yX11_keep cX11_keep 3 (some .int) :: GT) ({ frames := 1, cells := 0, slots := 0, locals := 25 } : Room) (PcI [.ref (ax 112), .int k] dC dI G (X11I dC dI G ax T Y fa W0 W1 W2 N B N1 B1 N2 B2 K S M E Z) sz) (va_Qi (fun (r : Int32) (_ : Unit) => r = if (0 ≤ k.toInt ∧ k.toInt < 2) then (if K k.toNatClampNeg = 0 then 0 else 1) else -1) (fun _ t => X11I dC dI G ax T Y fa W0 (if k = 0 then W0 else W1) (if k = 1 then W0 else W2) N B (if k = 0 then N else N1) (if k = 0 then B else B1) (if k = 1 then N else N2) (if k = 1 then B else B2) (if (0 ≤ k.toInt ∧ k.toInt < 2) then upd K k.toNatClampNeg 1 else K) S M E Z t.heap) (adX 112 129 ax sz)) 0 0 (adX 112 129 ax sz) := by
  refine Met.pick (fun a st hp => ?_)
  obtain ⟨e0, hsz, hI, hK⟩ := hp
  subst hsz
  have hI0 := hI
  unfold X11I at hI
  obtain ⟨p0, p1, p2, p3, p4, p5, p6, p7, p8, p9, p10, p11, p12, p13, p14, p15, p16, hX⟩ := hI
  unfold X11Pr at p0
  obtain ⟨zi112_4, zi112_5, zi112_6, zi112_7, zi112_8, zi112_9, zi112_13, zi112_14, zi112_15, zn112_16, zi112_17, zi112_18, zi112_34, p0j0, p0j1, p0j2, p0j3, p0j4, p0j5, p0j6, q112⟩ := p0
  unfold X11P0 at p1
  obtain ⟨zf113, p1j0, p1j1, p1j2, p1j3, p1j4, p1j5, p1j6, p1j7, q113⟩ := p1
  unfold X11P30 at p13
  have q125 := p13
  refine ⟨_, _, _, c_X11_keepW l dC dI G _ (ax 112) (ax 113) N B (ax 114) (ax 115) T (ax 116) (ax 117) (ax 118) (ax 119) (ax 120) (ax 121) S (ax 122) M (ax 123) (ax 124) (ax 125) (ax 126) (ax 127) (ax 128) k zi112_4 zi112_5 zi112_6 zi112_7 zi112_8 zi112_9 fa zi112_13 zi112_14 zi112_15 (nI zn112_16) zi112_17 zi112_18 zi112_34 zf113 K (by first | with_reducible assumption | assumption) (by first | with_reducible assumption | assumption) (by first | with_reducible assumption | assumption) (by first | with_reducible assumption | assumption) (by first | with_reducible assumption | assumption) (by first | with_reducible assumption | assumption), ⟨e0, rfl, (vpc q112 (vpc q113 (vpc q125 va_nilP))), hK, vD_ix hi [112, 113, 125] (by rfl) (by decide) (by decide)⟩, ad_ix [112, 113, 125] (by rfl) (by decide), fun o t hq => ?_⟩
  obtain ⟨⟨r, ⟨ost, oik⟩, ho, ⟨hr, hu⟩, hP1, -⟩, hF⟩ := hq
  have FR : ∀ lo hi' : Nat, hi' ≤ 129 → ([112, 113, 125] : List Nat).all (fun x => decide (x < lo) || decide (hi' ≤ x)) = true → ∀ j : Nat, lo ≤ j → j < hi' → ax j < st.heap.size → t.heap[ax j]? = st.heap[ax j]? := fun lo hi' h1 h2 => fr_ix hi h1 hF.2 [112, 113, 125] (by rfl) (by decide) h2
  have y125 : (if (0 ≤ k.toInt ∧ k.toInt < 2) then upd K k.toNatClampNeg 1 else K) = oik := Eq.symm (hu.2.1)
  subst y125
  have hT := hu.2
  replace hu := hu.1
  have np0 : X11Pr dC dI G ax T fa N B S M t.heap := ⟨zi112_4, zi112_5, zi112_6, zi112_7, zi112_8, zi112_9, zi112_13, zi112_14, zi112_15, zn112_16, zi112_17, zi112_18, zi112_34, p0j0, p0j1, p0j2, p0j3, p0j4, p0j5, p0j6, hP1 0 _ rfl⟩
  have np1 : X11P0 dC dI G ax W0 (if k = 0 then W0 else W1) (if k = 1 then W0 else W2) N B (if k = 0 then N else N1) (if k = 0 then B else B1) (if k = 1 then N else N2) (if k = 1 then B else B2) t.heap := ⟨ost, (by first | omega | exact hu | exact hu.1 | exact hu.1.1 | exact hu.1.2 | exact hu.2 | exact hu.1.1.1 | exact hu.1.1.2 | exact fd_nn (by first | with_reducible assumption | assumption) | (split at hu <;> omega) | (split <;> omega) | exact E_inv (by first | with_reducible assumption | assumption)), (by first | omega | exact hu | exact hu.1 | exact hu.1.1 | exact hu.1.2 | exact hu.2 | exact hu.1.1.1 | exact hu.1.1.2 | exact fd_nn (by first | with_reducible assumption | assumption) | (split at hu <;> omega) | (split <;> omega) | exact E_inv (by first | with_reducible assumption | assumption)), (by first | omega | exact hu | exact hu.1 | exact hu.1.1 | exact hu.1.2 | exact hu.2 | exact hu.1.1.1 | exact hu.1.1.2 | exact fd_nn (by first | with_reducible assumption | assumption) | (split at hu <;> omega) | (split <;> omega) | exact E_inv (by first | with_reducible assumption | assumption)), (by first | omega | exact hu | exact hu.1 | exact hu.1.1 | exact hu.1.2 | exact hu.2 | exact hu.1.1.1 | exact hu.1.1.2 | exact fd_nn (by first | with_reducible assumption | assumption) | (split at hu <;> omega) | (split <;> omega) | exact E_inv (by first | with_reducible assumption | assumption)), (by rw [hT.2]; exact SR.kp0 (by first | with_reducible assumption | assumption) (by first | with_reducible assumption | assumption) (by first | with_reducible assumption | assumption)), (by rw [hT.2]; exact SR.kp1 (by first | with_reducible assumption | assumption) (by first | with_reducible assumption | assumption) (by first | with_reducible assumption | assumption) (by first | with_reducible assumption | assumption) (by first | with_reducible assumption | assumption) (by first | with_reducible assumption | assumption)), (by rw [hT.2]; exact SR.kp2 (by first | with_reducible assumption | assumption) (by first | with_reducible assumption | assumption) (by first | with_reducible assumption | assumption) (by first | with_reducible assumption | assumption) (by first | with_reducible assumption | assumption) (by first | with_reducible assumption | assumption)), (by first | omega | exact hu | exact hu.1 | exact hu.1.1 | exact hu.1.2 | exact hu.2 | exact hu.1.1.1 | exact hu.1.1.2 | exact fd_nn (by first | with_reducible assumption | assumption) | (split at hu <;> omega) | (split <;> omega) | exact E_inv (by first | with_reducible assumption | assumption)), hP1 1 _ rfl⟩
  have np13 : X11P30 dC dI G ax (if (0 ≤ k.toInt ∧ k.toInt < 2) then upd K k.toNatClampNeg 1 else K) t.heap := hP1 2 _ rfl
  exact ⟨⟨r, (), ho, hr, ⟨np0, np1, p2.kept (FR 114 115 (by decide) (by decide)), p3.kept (FR 115 116 (by decide) (by decide)), p4.kept (FR 116 117 (by decide) (by decide)), p5.kept (FR 117 118 (by decide) (by decide)), p6.kept (FR 118 119 (by decide) (by decide)), p7.kept (FR 119 120 (by decide) (by decide)), p8.kept (FR 120 121 (by decide) (by decide)), p9.kept (FR 121 122 (by decide) (by decide)), p10.kept (FR 122 123 (by decide) (by decide)), p11.kept (FR 123 124 (by decide) (by decide)), p12.kept (FR 124 125 (by decide) (by decide)), np13, p14.kept (FR 126 127 (by decide) (by decide)), p15.kept (FR 127 128 (by decide) (by decide)), p16.kept (FR 128 129 (by decide) (by decide)), kp_X hX⟩⟩, hF.wide (ad_ix [112, 113, 125] (by rfl) (by decide))⟩

set_option maxHeartbeats 1000000 in
set_option maxRecDepth 100000 in
theorem k_X11_backW (l : Launch) (dC : Nat → ClassId) (dI : Nat → Nat → Nat) (G : Nat → ClassId) (sz : Nat) (ax : Nat → Nat) (hi : adInj 129 ax) (T : Nat) (Y : Nat → Int32) (fa : Int32) (W0 : Nat → Int32) (W1 : Nat → Int32) (W2 : Nat → Int32) (N : Nat) (B : Nat) (N1 : Nat) (B1 : Nat) (N2 : Nat) (B2 : Nat) (K : Nat → Int32) (S : Nat) (M : Nat) (E : Nat → Int32) (Z : Nat → Int32) (k : Int32) : Met l yX11_back (Cond.code yX11_back cX11_back 2 (some .int) :: GT) ({ frames := 1, cells := 0, slots := 0, locals := 25 } : Room) (PcI [.ref (ax 112), .int k] dC dI G (X11I dC dI G ax T Y fa W0 W1 W2 N B N1 B1 N2 B2 K S M E Z) sz) (va_Qi (fun (r : Int32) (_ : Unit) => r = if (0 ≤ k.toInt ∧ k.toInt < 2) then (if K k.toNatClampNeg = 0 then -2 else nI N) else -1) (fun _ t => X11I dC dI G ax T Y fa (bkW k K W0 W1 W2) W1 W2 N B N1 B1 N2 B2 K S M E Z t.heap) (adX 112 129 ax sz)) 0 0 (adX 112 129 ax sz) := by
  refine Met.pick (fun a st hp => ?_)
  obtain ⟨e0, hsz, hI, hK⟩ := hp
  subst hsz
  have hI0 := hI
  unfold X11I at hI
  obtain ⟨p0, p1, p2, p3, p4, p5, p6, p7, p8, p9, p10, p11, p12, p13, p14, p15, p16, hX⟩ := hI
  unfold X11Pr at p0
  obtain ⟨zi112_4, zi112_5, zi112_6, zi112_7, zi112_8, zi112_9, zi112_13, zi112_14, zi112_15, zn112_16, zi112_17, zi112_18, zi112_34, p0j0, p0j1, p0j2, p0j3, p0j4, p0j5, p0j6, q112⟩ := p0
  unfold X11P0 at p1
  obtain ⟨zf113, p1j0, p1j1, p1j2, p1j3, p1j4, p1j5, p1j6, p1j7, q113⟩ := p1
  unfold X11P30 at p13
  have q125 := p13
  refine ⟨_, _, _, c_X11_backW l dC dI G _ (ax 112) (ax 113) N B (ax 114) (ax 115) T (ax 116) (ax 117) (ax 118) (ax 119) (ax 120) (ax 121) S (ax 122) M (ax 123) (ax 124) (ax 125) (ax 126) (ax 127) (ax 128) k zi112_4 zi112_5 zi112_6 zi112_7 zi112_8 zi112_9 fa zi112_13 zi112_14 zi112_15 (nI zn112_16) zi112_17 zi112_18 zi112_34 zf113 K (by first | with_reducible assumption | assumption) (by first | with_reducible assumption | assumption) (by first | with_reducible assumption | assumption) (by first | with_reducible assumption | assumption) (by first | with_reducible assumption | assumption) (by first | with_reducible assumption | assumption), ⟨e0, rfl, (vpc q112 (vpc q113 (vpc q125 va_nilP))), hK, vD_ix hi [112, 113, 125] (by rfl) (by decide) (by decide)⟩, ad_ix [112, 113, 125] (by rfl) (by decide), fun o t hq => ?_⟩
  obtain ⟨⟨r, ost, ho, ⟨hr, hu⟩, hP1, -⟩, hF⟩ := hq
  have FR : ∀ lo hi' : Nat, hi' ≤ 129 → ([112, 113, 125] : List Nat).all (fun x => decide (x < lo) || decide (hi' ≤ x)) = true → ∀ j : Nat, lo ≤ j → j < hi' → ax j < st.heap.size → t.heap[ax j]? = st.heap[ax j]? := fun lo hi' h1 h2 => fr_ix hi h1 hF.2 [112, 113, 125] (by rfl) (by decide) h2
  have hT := hu.2
  replace hu := hu.1
  have np0 : X11Pr dC dI G ax T fa N B S M t.heap := ⟨zi112_4, zi112_5, zi112_6, zi112_7, zi112_8, zi112_9, zi112_13, zi112_14, zi112_15, zn112_16, zi112_17, zi112_18, zi112_34, p0j0, p0j1, p0j2, p0j3, p0j4, p0j5, p0j6, hP1 0 _ rfl⟩
  have np1 : X11P0 dC dI G ax (bkW k K W0 W1 W2) W1 W2 N B N1 B1 N2 B2 t.heap := ⟨ost, p1j0, p1j1, p1j2, p1j3, (by rw [hT]; exact SR.bk0 (by first | with_reducible assumption | assumption) (by first | with_reducible assumption | assumption) (by first | with_reducible assumption | assumption) hX (by first | with_reducible assumption | assumption) (by first | with_reducible assumption | assumption)), (by rw [hT]; exact SR.bko (by first | with_reducible assumption | assumption) (by decide)), (by rw [hT]; exact SR.bko (by first | with_reducible assumption | assumption) (by decide)), (by first | omega | exact hu | exact hu.1 | exact hu.1.1 | exact hu.1.2 | exact hu.2 | exact hu.1.1.1 | exact hu.1.1.2 | exact fd_nn (by first | with_reducible assumption | assumption) | (split at hu <;> omega) | (split <;> omega) | exact E_inv (by first | with_reducible assumption | assumption)), hP1 1 _ rfl⟩
  have np13 : X11P30 dC dI G ax K t.heap := hP1 2 _ rfl
  exact ⟨⟨r, (), ho, hr, ⟨np0, np1, p2.kept (FR 114 115 (by decide) (by decide)), p3.kept (FR 115 116 (by decide) (by decide)), p4.kept (FR 116 117 (by decide) (by decide)), p5.kept (FR 117 118 (by decide) (by decide)), p6.kept (FR 118 119 (by decide) (by decide)), p7.kept (FR 119 120 (by decide) (by decide)), p8.kept (FR 120 121 (by decide) (by decide)), p9.kept (FR 121 122 (by decide) (by decide)), p10.kept (FR 122 123 (by decide) (by decide)), p11.kept (FR 123 124 (by decide) (by decide)), p12.kept (FR 124 125 (by decide) (by decide)), np13, p14.kept (FR 126 127 (by decide) (by decide)), p15.kept (FR 127 128 (by decide) (by decide)), p16.kept (FR 128 129 (by decide) (by decide)), hX⟩⟩, hF.wide (ad_ix [112, 113, 125] (by rfl) (by decide))⟩

set_option maxHeartbeats 1000000 in
set_option maxRecDepth 100000 in
theorem k_X11_sheet (l : Launch) (dC : Nat → ClassId) (dI : Nat → Nat → Nat) (G : Nat → ClassId) (sz : Nat) (ax : Nat → Nat) (hi : adInj 129 ax) (T : Nat) (Y : Nat → Int32) (fa : Int32) (W0 : Nat → Int32) (W1 : Nat → Int32) (W2 : Nat → Int32) (N : Nat) (B : Nat) (N1 : Nat) (B1 : Nat) (N2 : Nat) (B2 : Nat) (K : Nat → Int32) (S : Nat) (M : Nat) (E : Nat → Int32) (Z : Nat → Int32) (k : Int32) (lane : Int32) (n : Int32) : Met l yX11_sheet (Cond.code yX11_sheet cX11_sheet 5 (some .int) :: GT) ({ frames := 1, cells := 0, slots := 0, locals := 25 } : Room) (PcI [.ref (ax 112), .int k, .int lane, .int n] dC dI G (X11I dC dI G ax T Y fa W0 W1 W2 N B N1 B1 N2 B2 K S M E Z) sz) (va_Qi (fun (r : Int32) (_ : Unit) => r = if (0 ≤ k.toInt ∧ k.toInt < 4) ∧ (0 ≤ lane.toInt ∧ lane.toInt ≤ 2) ∧ n.toInt ≤ 40 then (if n.toInt < 0 then -14 else 1) else -1) (fun _ t => X11I dC dI G ax T Y fa W0 W1 W2 N B N1 B1 N2 B2 K S M (if ((0 ≤ k.toInt ∧ k.toInt < 4) ∧ (0 ≤ lane.toInt ∧ lane.toInt ≤ 2) ∧ n.toInt ≤ 40 ∧ 0 ≤ n.toInt) then upd E k.toNatClampNeg lane else E) (if ((0 ≤ k.toInt ∧ k.toInt < 4) ∧ (0 ≤ lane.toInt ∧ lane.toInt ≤ 2) ∧ n.toInt ≤ 40 ∧ 0 ≤ n.toInt) then upd Z k.toNatClampNeg n else Z) t.heap) (adX 112 129 ax sz)) 0 0 (adX 112 129 ax sz) := by
  refine Met.pick (fun a st hp => ?_)
  obtain ⟨e0, hsz, hI, hK⟩ := hp
  subst hsz
  have hI0 := hI
  unfold X11I at hI
  obtain ⟨p0, p1, p2, p3, p4, p5, p6, p7, p8, p9, p10, p11, p12, p13, p14, p15, p16, hX⟩ := hI
  unfold X11Pr at p0
  obtain ⟨zi112_4, zi112_5, zi112_6, zi112_7, zi112_8, zi112_9, zi112_13, zi112_14, zi112_15, zn112_16, zi112_17, zi112_18, zi112_34, p0j0, p0j1, p0j2, p0j3, p0j4, p0j5, p0j6, q112⟩ := p0
  unfold X11P31 at p14
  obtain ⟨p14j0, q126⟩ := p14
  unfold X11P32 at p15
  obtain ⟨p15j0, q127⟩ := p15
  unfold X11P33 at p16
  obtain ⟨zf128, q128⟩ := p16
  refine ⟨_, _, _, c_X11_sheet l dC dI G _ (ax 112) (ax 113) N B (ax 114) (ax 115) T (ax 116) (ax 117) (ax 118) (ax 119) (ax 120) (ax 121) S (ax 122) M (ax 123) (ax 124) (ax 125) (ax 126) (ax 127) (ax 128) k lane n zi112_4 zi112_5 zi112_6 zi112_7 zi112_8 zi112_9 fa zi112_13 zi112_14 zi112_15 (nI zn112_16) zi112_17 zi112_18 zi112_34 (lmap E) Z zf128 (by first | with_reducible assumption | assumption) (by first | with_reducible assumption | assumption) (by first | with_reducible assumption | assumption) (by first | with_reducible assumption | assumption) (by first | with_reducible assumption | assumption) (by first | with_reducible assumption | assumption), ⟨e0, rfl, (vpc q112 (vpc q126 (vpc q127 (vpc q128 va_nilP)))), hK, vD_ix hi [112, 126, 127, 128] (by rfl) (by decide) (by decide)⟩, ad_ix [112, 126, 127, 128] (by rfl) (by decide), fun o t hq => ?_⟩
  obtain ⟨⟨r, ⟨ola, olg, oce⟩, ho, ⟨hr, hu⟩, hP1, -⟩, hF⟩ := hq
  have FR : ∀ lo hi' : Nat, hi' ≤ 129 → ([112, 126, 127, 128] : List Nat).all (fun x => decide (x < lo) || decide (hi' ≤ x)) = true → ∀ j : Nat, lo ≤ j → j < hi' → ax j < st.heap.size → t.heap[ax j]? = st.heap[ax j]? := fun lo hi' h1 h2 => fr_ix hi h1 hF.2 [112, 126, 127, 128] (by rfl) (by decide) h2
  have y126 : lmap (if ((0 ≤ k.toInt ∧ k.toInt < 4) ∧ (0 ≤ lane.toInt ∧ lane.toInt ≤ 2) ∧ n.toInt ≤ 40 ∧ 0 ≤ n.toInt) then upd E k.toNatClampNeg lane else E) = ola := Eq.symm (by first | exact hu | exact hu.1 | exact hu.2 | exact hu.1.1 | exact hu.1.2 | exact hu.2.1.trans (txt_cf (by first | with_reducible assumption | assumption)) | exact hu.2.1.trans (txt_rf (by first | with_reducible assumption | assumption)) | exact hu.1.1.trans lmap_step | omega)
  subst y126
  have y127 : (if ((0 ≤ k.toInt ∧ k.toInt < 4) ∧ (0 ≤ lane.toInt ∧ lane.toInt ≤ 2) ∧ n.toInt ≤ 40 ∧ 0 ≤ n.toInt) then upd Z k.toNatClampNeg n else Z) = olg := Eq.symm (by first | exact hu | exact hu.1 | exact hu.2 | exact hu.1.1 | exact hu.1.2 | exact hu.2.1.trans (txt_cf (by first | with_reducible assumption | assumption)) | exact hu.2.1.trans (txt_rf (by first | with_reducible assumption | assumption)) | exact hu.1.1.trans lmap_step | omega)
  subst y127
  have np0 : X11Pr dC dI G ax T fa N B S M t.heap := ⟨zi112_4, zi112_5, zi112_6, zi112_7, zi112_8, zi112_9, zi112_13, zi112_14, zi112_15, zn112_16, zi112_17, zi112_18, zi112_34, p0j0, p0j1, p0j2, p0j3, p0j4, p0j5, p0j6, hP1 0 _ rfl⟩
  have np14 : X11P31 dC dI G ax (if ((0 ≤ k.toInt ∧ k.toInt < 4) ∧ (0 ≤ lane.toInt ∧ lane.toInt ≤ 2) ∧ n.toInt ≤ 40 ∧ 0 ≤ n.toInt) then upd E k.toNatClampNeg lane else E) t.heap := ⟨(by first | omega | exact hu | exact hu.1 | exact hu.1.1 | exact hu.1.2 | exact hu.2 | exact hu.1.1.1 | exact hu.1.1.2 | exact fd_nn (by first | with_reducible assumption | assumption) | (split at hu <;> omega) | (split <;> omega) | exact E_inv (by first | with_reducible assumption | assumption)), hP1 1 _ rfl⟩
  have np15 : X11P32 dC dI G ax (if ((0 ≤ k.toInt ∧ k.toInt < 4) ∧ (0 ≤ lane.toInt ∧ lane.toInt ≤ 2) ∧ n.toInt ≤ 40 ∧ 0 ≤ n.toInt) then upd Z k.toNatClampNeg n else Z) t.heap := ⟨(by first | omega | exact hu | exact hu.1 | exact hu.1.1 | exact hu.1.2 | exact hu.2 | exact hu.1.1.1 | exact hu.1.1.2 | exact fd_nn (by first | with_reducible assumption | assumption) | (split at hu <;> omega) | (split <;> omega) | exact E_inv (by first | with_reducible assumption | assumption)), hP1 2 _ rfl⟩
  have np16 : X11P33 dC dI G ax t.heap := ⟨oce, hP1 3 _ rfl⟩
  exact ⟨⟨r, (), ho, hr, ⟨np0, p1.kept (FR 113 114 (by decide) (by decide)), p2.kept (FR 114 115 (by decide) (by decide)), p3.kept (FR 115 116 (by decide) (by decide)), p4.kept (FR 116 117 (by decide) (by decide)), p5.kept (FR 117 118 (by decide) (by decide)), p6.kept (FR 118 119 (by decide) (by decide)), p7.kept (FR 119 120 (by decide) (by decide)), p8.kept (FR 120 121 (by decide) (by decide)), p9.kept (FR 121 122 (by decide) (by decide)), p10.kept (FR 122 123 (by decide) (by decide)), p11.kept (FR 123 124 (by decide) (by decide)), p12.kept (FR 124 125 (by decide) (by decide)), p13.kept (FR 125 126 (by decide) (by decide)), np14, np15, np16, hX⟩⟩, hF.wide (ad_ix [112, 126, 127, 128] (by rfl) (by decide))⟩

set_option maxHeartbeats 1000000 in
set_option maxRecDepth 100000 in
theorem k_X11_lay (l : Launch) (dC : Nat → ClassId) (dI : Nat → Nat → Nat) (G : Nat → ClassId) (sz : Nat) (ax : Nat → Nat) (hi : adInj 129 ax) (T : Nat) (Y : Nat → Int32) (fa : Int32) (W0 : Nat → Int32) (W1 : Nat → Int32) (W2 : Nat → Int32) (N : Nat) (B : Nat) (N1 : Nat) (B1 : Nat) (N2 : Nat) (B2 : Nat) (K : Nat → Int32) (S : Nat) (M : Nat) (E : Nat → Int32) (Z : Nat → Int32) (k : Int32) (i : Int32) (v : Int32) : Met l yX11_lay (Cond.code yX11_lay cX11_lay 4 (some .int) :: GT) ({ frames := 1, cells := 0, slots := 0, locals := 25 } : Room) (PcI [.ref (ax 112), .int k, .int i, .int v] dC dI G (X11I dC dI G ax T Y fa W0 W1 W2 N B N1 B1 N2 B2 K S M E Z) sz) (va_Qi (fun (r : Int32) (_ : Unit) => r = if 0 ≤ k.toInt ∧ k.toInt < 4 then (if E k.toNatClampNeg = -1 then -11 else if 0 ≤ i.toInt ∧ i.toInt < (Z k.toNatClampNeg).toInt then 1 else -12) else -1) (fun _ t => X11I dC dI G ax T Y fa W0 W1 W2 N B N1 B1 N2 B2 K S M E Z t.heap) (adX 112 129 ax sz)) 0 0 (adX 112 129 ax sz) := by
  refine Met.pick (fun a st hp => ?_)
  obtain ⟨e0, hsz, hI, hK⟩ := hp
  subst hsz
  have hI0 := hI
  unfold X11I at hI
  obtain ⟨p0, p1, p2, p3, p4, p5, p6, p7, p8, p9, p10, p11, p12, p13, p14, p15, p16, hX⟩ := hI
  unfold X11Pr at p0
  obtain ⟨zi112_4, zi112_5, zi112_6, zi112_7, zi112_8, zi112_9, zi112_13, zi112_14, zi112_15, zn112_16, zi112_17, zi112_18, zi112_34, p0j0, p0j1, p0j2, p0j3, p0j4, p0j5, p0j6, q112⟩ := p0
  unfold X11P31 at p14
  obtain ⟨p14j0, q126⟩ := p14
  unfold X11P32 at p15
  obtain ⟨p15j0, q127⟩ := p15
  unfold X11P33 at p16
  obtain ⟨zf128, q128⟩ := p16
  refine ⟨_, _, _, c_X11_lay l dC dI G _ (ax 112) (ax 113) N B (ax 114) (ax 115) T (ax 116) (ax 117) (ax 118) (ax 119) (ax 120) (ax 121) S (ax 122) M (ax 123) (ax 124) (ax 125) (ax 126) (ax 127) (ax 128) k i v zi112_4 zi112_5 zi112_6 zi112_7 zi112_8 zi112_9 fa zi112_13 zi112_14 zi112_15 (nI zn112_16) zi112_17 zi112_18 zi112_34 (lmap E) Z zf128 (by first | with_reducible assumption | assumption) (by first | with_reducible assumption | assumption) (by first | with_reducible assumption | assumption) (by first | with_reducible assumption | assumption) (by first | with_reducible assumption | assumption) (by first | with_reducible assumption | assumption), ⟨e0, rfl, (vpc q112 (vpc q126 (vpc q127 (vpc q128 va_nilP)))), hK, vD_ix hi [112, 126, 127, 128] (by rfl) (by decide) (by decide)⟩, ad_ix [112, 126, 127, 128] (by rfl) (by decide), fun o t hq => ?_⟩
  obtain ⟨⟨r, oce, ho, ⟨hr, hu⟩, hP1, -⟩, hF⟩ := hq
  have FR : ∀ lo hi' : Nat, hi' ≤ 129 → ([112, 126, 127, 128] : List Nat).all (fun x => decide (x < lo) || decide (hi' ≤ x)) = true → ∀ j : Nat, lo ≤ j → j < hi' → ax j < st.heap.size → t.heap[ax j]? = st.heap[ax j]? := fun lo hi' h1 h2 => fr_ix hi h1 hF.2 [112, 126, 127, 128] (by rfl) (by decide) h2
  have np0 : X11Pr dC dI G ax T fa N B S M t.heap := ⟨zi112_4, zi112_5, zi112_6, zi112_7, zi112_8, zi112_9, zi112_13, zi112_14, zi112_15, zn112_16, zi112_17, zi112_18, zi112_34, p0j0, p0j1, p0j2, p0j3, p0j4, p0j5, p0j6, hP1 0 _ rfl⟩
  have np14 : X11P31 dC dI G ax E t.heap := ⟨p14j0, hP1 1 _ rfl⟩
  have np15 : X11P32 dC dI G ax Z t.heap := ⟨p15j0, hP1 2 _ rfl⟩
  have np16 : X11P33 dC dI G ax t.heap := ⟨oce, hP1 3 _ rfl⟩
  exact ⟨⟨r, (), ho, hr.trans (lay_eq (by first | with_reducible assumption | assumption)), ⟨np0, p1.kept (FR 113 114 (by decide) (by decide)), p2.kept (FR 114 115 (by decide) (by decide)), p3.kept (FR 115 116 (by decide) (by decide)), p4.kept (FR 116 117 (by decide) (by decide)), p5.kept (FR 117 118 (by decide) (by decide)), p6.kept (FR 118 119 (by decide) (by decide)), p7.kept (FR 119 120 (by decide) (by decide)), p8.kept (FR 120 121 (by decide) (by decide)), p9.kept (FR 121 122 (by decide) (by decide)), p10.kept (FR 122 123 (by decide) (by decide)), p11.kept (FR 123 124 (by decide) (by decide)), p12.kept (FR 124 125 (by decide) (by decide)), p13.kept (FR 125 126 (by decide) (by decide)), np14, np15, np16, hX⟩⟩, hF.wide (ad_ix [112, 126, 127, 128] (by rfl) (by decide))⟩

set_option maxHeartbeats 1000000 in
set_option maxRecDepth 100000 in
theorem k_X11_readW (l : Launch) (dC : Nat → ClassId) (dI : Nat → Nat → Nat) (G : Nat → ClassId) (sz : Nat) (ax : Nat → Nat) (hi : adInj 129 ax) (T : Nat) (Y : Nat → Int32) (fa : Int32) (W0 : Nat → Int32) (W1 : Nat → Int32) (W2 : Nat → Int32) (N : Nat) (B : Nat) (N1 : Nat) (B1 : Nat) (N2 : Nat) (B2 : Nat) (K : Nat → Int32) (S : Nat) (M : Nat) (E : Nat → Int32) (Z : Nat → Int32) (k : Int32) (lane : Int32) (x1 : Int32) (n : Int32) : Met l yX11_read (Cond.code yX11_read cX11_read 9 (some .int) :: GT) ({ frames := 3, cells := 0, slots := 0, locals := 68 } : Room) (PcI [.ref (ax 112), .int k, .int lane, .int x1, .int n] dC dI G (X11I dC dI G ax T Y fa W0 W1 W2 N B N1 B1 N2 B2 K S M E Z) sz) (va_Qi (fun (r : Int32) (_ : Unit) => True) (fun _ t => X11I dC dI G ax T Y fa W0 W1 W2 N B N1 B1 N2 B2 K S M E Z t.heap) (adX 112 129 ax sz)) 0 0 (adX 112 129 ax sz) := by
  refine Met.pick (fun a st hp => ?_)
  obtain ⟨e0, hsz, hI, hK⟩ := hp
  subst hsz
  have hI0 := hI
  unfold X11I at hI
  obtain ⟨p0, p1, p2, p3, p4, p5, p6, p7, p8, p9, p10, p11, p12, p13, p14, p15, p16, hX⟩ := hI
  unfold X11Pr at p0
  obtain ⟨zi112_4, zi112_5, zi112_6, zi112_7, zi112_8, zi112_9, zi112_13, zi112_14, zi112_15, zn112_16, zi112_17, zi112_18, zi112_34, p0j0, p0j1, p0j2, p0j3, p0j4, p0j5, p0j6, q112⟩ := p0
  unfold X11P0 at p1
  obtain ⟨zf113, p1j0, p1j1, p1j2, p1j3, p1j4, p1j5, p1j6, p1j7, q113⟩ := p1
  unfold X11P31 at p14
  obtain ⟨p14j0, q126⟩ := p14
  unfold X11P32 at p15
  obtain ⟨p15j0, q127⟩ := p15
  unfold X11P33 at p16
  obtain ⟨zf128, q128⟩ := p16
  refine ⟨_, _, _, c_X11_readW l dC dI G _ (ax 112) (ax 113) N B (ax 114) (ax 115) T (ax 116) (ax 117) (ax 118) (ax 119) (ax 120) (ax 121) S (ax 122) M (ax 123) (ax 124) (ax 125) (ax 126) (ax 127) (ax 128) k lane x1 n zi112_4 zi112_5 zi112_6 zi112_7 zi112_8 zi112_9 fa zi112_13 zi112_14 zi112_15 (nI zn112_16) zi112_17 zi112_18 zi112_34 zf113 (lmap E) Z zf128 (by first | with_reducible assumption | assumption) (by first | with_reducible assumption | assumption) (by first | with_reducible assumption | assumption) (by first | with_reducible assumption | assumption) (by first | with_reducible assumption | assumption) (by first | with_reducible assumption | assumption) (by first | with_reducible assumption | assumption), ⟨e0, rfl, (vpc q112 (vpc q113 (vpc q126 (vpc q127 (vpc q128 va_nilP))))), hK, vD_ix hi [112, 113, 126, 127, 128] (by rfl) (by decide) (by decide)⟩, ad_ix [112, 113, 126, 127, 128] (by rfl) (by decide), fun o t hq => ?_⟩
  obtain ⟨⟨r, ⟨ost, oto⟩, ho, ⟨hr, hu⟩, hP1, -⟩, hF⟩ := hq
  have FR : ∀ lo hi' : Nat, hi' ≤ 129 → ([112, 113, 126, 127, 128] : List Nat).all (fun x => decide (x < lo) || decide (hi' ≤ x)) = true → ∀ j : Nat, lo ≤ j → j < hi' → ax j < st.heap.size → t.heap[ax j]? = st.heap[ax j]? := fun lo hi' h1 h2 => fr_ix hi h1 hF.2 [112, 113, 126, 127, 128] (by rfl) (by decide) h2
  have np0 : X11Pr dC dI G ax T fa N B S M t.heap := ⟨zi112_4, zi112_5, zi112_6, zi112_7, zi112_8, zi112_9, zi112_13, zi112_14, zi112_15, zn112_16, zi112_17, zi112_18, oto, p0j0, p0j1, p0j2, p0j3, p0j4, p0j5, p0j6, hP1 0 _ rfl⟩
  have np1 : X11P0 dC dI G ax W0 W1 W2 N B N1 B1 N2 B2 t.heap := ⟨ost, p1j0, p1j1, p1j2, p1j3, (SR.no3 (by first | with_reducible assumption | assumption) hu.2 (by first | with_reducible assumption | assumption) (by first | with_reducible assumption | assumption) (by omega)), (SR.no3 (by first | with_reducible assumption | assumption) hu.2 (by first | with_reducible assumption | assumption) (by first | with_reducible assumption | assumption) (by omega)), (SR.no3 (by first | with_reducible assumption | assumption) hu.2 (by first | with_reducible assumption | assumption) (by first | with_reducible assumption | assumption) (by omega)), (by first | omega | exact hu | exact hu.1 | exact hu.1.1 | exact hu.1.2 | exact hu.2 | exact hu.1.1.1 | exact hu.1.1.2 | exact fd_nn (by first | with_reducible assumption | assumption) | (split at hu <;> omega) | (split <;> omega) | exact E_inv (by first | with_reducible assumption | assumption)), hP1 1 _ rfl⟩
  have np14 : X11P31 dC dI G ax E t.heap := ⟨p14j0, hP1 2 _ rfl⟩
  have np15 : X11P32 dC dI G ax Z t.heap := ⟨p15j0, hP1 3 _ rfl⟩
  have np16 : X11P33 dC dI G ax t.heap := ⟨zf128, hP1 4 _ rfl⟩
  exact ⟨⟨r, (), ho, trivial, ⟨np0, np1, p2.kept (FR 114 115 (by decide) (by decide)), p3.kept (FR 115 116 (by decide) (by decide)), p4.kept (FR 116 117 (by decide) (by decide)), p5.kept (FR 117 118 (by decide) (by decide)), p6.kept (FR 118 119 (by decide) (by decide)), p7.kept (FR 119 120 (by decide) (by decide)), p8.kept (FR 120 121 (by decide) (by decide)), p9.kept (FR 121 122 (by decide) (by decide)), p10.kept (FR 122 123 (by decide) (by decide)), p11.kept (FR 123 124 (by decide) (by decide)), p12.kept (FR 124 125 (by decide) (by decide)), p13.kept (FR 125 126 (by decide) (by decide)), np14, np15, np16, hX⟩⟩, hF.wide (ad_ix [112, 113, 126, 127, 128] (by rfl) (by decide))⟩

set_option maxHeartbeats 1000000 in
set_option maxRecDepth 100000 in
theorem k_X11_torn (l : Launch) (dC : Nat → ClassId) (dI : Nat → Nat → Nat) (G : Nat → ClassId) (sz : Nat) (ax : Nat → Nat) (hi : adInj 129 ax) (T : Nat) (Y : Nat → Int32) (fa : Int32) (W0 : Nat → Int32) (W1 : Nat → Int32) (W2 : Nat → Int32) (N : Nat) (B : Nat) (N1 : Nat) (B1 : Nat) (N2 : Nat) (B2 : Nat) (K : Nat → Int32) (S : Nat) (M : Nat) (E : Nat → Int32) (Z : Nat → Int32) : Met l yX11_torn (Cond.code yX11_torn cX11_torn 1 (some .int) :: GT) ({ frames := 0, cells := 0, slots := 0, locals := 0 } : Room) (PcI [.ref (ax 112)] dC dI G (X11I dC dI G ax T Y fa W0 W1 W2 N B N1 B1 N2 B2 K S M E Z) sz) (va_Qi (fun (r : Int32) (_ : Unit) => True) (fun _ t => X11I dC dI G ax T Y fa W0 W1 W2 N B N1 B1 N2 B2 K S M E Z t.heap) (adX 112 129 ax sz)) 0 0 (adX 112 129 ax sz) := by
  refine Met.pick (fun a st hp => ?_)
  obtain ⟨e0, hsz, hI, hK⟩ := hp
  subst hsz
  have hI0 := hI
  unfold X11I at hI
  obtain ⟨p0, p1, p2, p3, p4, p5, p6, p7, p8, p9, p10, p11, p12, p13, p14, p15, p16, hX⟩ := hI
  unfold X11Pr at p0
  obtain ⟨zi112_4, zi112_5, zi112_6, zi112_7, zi112_8, zi112_9, zi112_13, zi112_14, zi112_15, zn112_16, zi112_17, zi112_18, zi112_34, p0j0, p0j1, p0j2, p0j3, p0j4, p0j5, p0j6, q112⟩ := p0
  refine ⟨_, _, _, c_X11_torn l dC dI G _ (ax 112) (ax 113) N B (ax 114) (ax 115) T (ax 116) (ax 117) (ax 118) (ax 119) (ax 120) (ax 121) S (ax 122) M (ax 123) (ax 124) (ax 125) (ax 126) (ax 127) (ax 128) zi112_4 zi112_5 zi112_6 zi112_7 zi112_8 zi112_9 fa zi112_13 zi112_14 zi112_15 (nI zn112_16) zi112_17 zi112_18 zi112_34 (by first | with_reducible assumption | assumption) (by first | with_reducible assumption | assumption) (by first | with_reducible assumption | assumption) (by first | with_reducible assumption | assumption) (by first | with_reducible assumption | assumption), ⟨e0, rfl, (vpc q112 va_nilP), hK⟩, fun q h => Or.inr h, fun o t hq => ?_⟩
  obtain ⟨⟨r, u, ho, ⟨hr, hu⟩, -⟩, hF⟩ := hq
  exact ⟨⟨r, (), ho, trivial, hI0.kept (fun j _ _ h => hF.2 _ h (Nat.not_le.mpr h))⟩, hF.wide (fun q h => Or.inr h)⟩

set_option maxHeartbeats 1000000 in
set_option maxRecDepth 100000 in
theorem k_X11_count (l : Launch) (dC : Nat → ClassId) (dI : Nat → Nat → Nat) (G : Nat → ClassId) (sz : Nat) (ax : Nat → Nat) (hi : adInj 129 ax) (T : Nat) (Y : Nat → Int32) (fa : Int32) (W0 : Nat → Int32) (W1 : Nat → Int32) (W2 : Nat → Int32) (N : Nat) (B : Nat) (N1 : Nat) (B1 : Nat) (N2 : Nat) (B2 : Nat) (K : Nat → Int32) (S : Nat) (M : Nat) (E : Nat → Int32) (Z : Nat → Int32) (what : Int32) : Met l yX11_count (Cond.code yX11_count cX11_count 4 (some .int) :: GT) ({ frames := 0, cells := 0, slots := 0, locals := 0 } : Room) (PcI [.ref (ax 112), .int what] dC dI G (X11I dC dI G ax T Y fa W0 W1 W2 N B N1 B1 N2 B2 K S M E Z) sz) (va_Qi (fun (r : Int32) (_ : Unit) => True) (fun _ t => X11I dC dI G ax T Y fa W0 W1 W2 N B N1 B1 N2 B2 K S M E Z t.heap) (adX 112 129 ax sz)) 0 0 (adX 112 129 ax sz) := by
  refine Met.pick (fun a st hp => ?_)
  obtain ⟨e0, hsz, hI, hK⟩ := hp
  subst hsz
  have hI0 := hI
  unfold X11I at hI
  obtain ⟨p0, p1, p2, p3, p4, p5, p6, p7, p8, p9, p10, p11, p12, p13, p14, p15, p16, hX⟩ := hI
  unfold X11Pr at p0
  obtain ⟨zi112_4, zi112_5, zi112_6, zi112_7, zi112_8, zi112_9, zi112_13, zi112_14, zi112_15, zn112_16, zi112_17, zi112_18, zi112_34, p0j0, p0j1, p0j2, p0j3, p0j4, p0j5, p0j6, q112⟩ := p0
  unfold X11P0 at p1
  obtain ⟨zf113, p1j0, p1j1, p1j2, p1j3, p1j4, p1j5, p1j6, p1j7, q113⟩ := p1
  unfold X11P30 at p13
  have q125 := p13
  unfold X11P31 at p14
  obtain ⟨p14j0, q126⟩ := p14
  unfold X11P32 at p15
  obtain ⟨p15j0, q127⟩ := p15
  refine ⟨_, _, _, c_X11_count l dC dI G _ (ax 112) (ax 113) N B (ax 114) (ax 115) T (ax 116) (ax 117) (ax 118) (ax 119) (ax 120) (ax 121) S (ax 122) M (ax 123) (ax 124) (ax 125) (ax 126) (ax 127) (ax 128) what zi112_4 zi112_5 zi112_6 zi112_7 zi112_8 zi112_9 fa zi112_13 zi112_14 zi112_15 (nI zn112_16) zi112_17 zi112_18 zi112_34 zf113 K (lmap E) Z (by first | with_reducible assumption | assumption) (by first | with_reducible assumption | assumption) (by first | with_reducible assumption | assumption) (by first | with_reducible assumption | assumption) (by first | with_reducible assumption | assumption), ⟨e0, rfl, (vpc q112 (vpc q113 (vpc q125 (vpc q126 (vpc q127 va_nilP))))), hK⟩, fun q h => Or.inr h, fun o t hq => ?_⟩
  obtain ⟨⟨r, u, ho, ⟨hr, hu⟩, -⟩, hF⟩ := hq
  exact ⟨⟨r, (), ho, trivial, hI0.kept (fun j _ _ h => hF.2 _ h (Nat.not_le.mpr h))⟩, hF.wide (fun q h => Or.inr h)⟩

set_option maxHeartbeats 1000000 in
set_option maxRecDepth 100000 in
theorem c_X1_init (l : Launch) (dC : Nat → ClassId) (dI : Nat → Nat → Nat) (G : Nat → ClassId) (sz : Nat) (h0 : Nat)  : Met l yX1_init (Cond.code yX1_init cX1_init 1 none :: GT) ({ frames := 1, cells := 0, slots := 0, locals := 24 } : Room) (PcW [.ref h0] dC dI G [(h0, .inr (1, [.int 0, .int 0, .int 0]))] sz) (va_Qv (fun (u : (Nat → Nat)) => match u with | v => True) (fun (u : (Nat → Nat)) (t : State) => match u with | v => va_P (dC, dI) vwCl [(h0, .inr (1, [.int 0, .int 0, .int 0]))] t.heap ∧ va_D (va_A [(h0, .inr (1, [.int 0, .int 0, .int 0]))] sz) [(h0, .inr (1, [.int 0, .int 0, .int 0]))]) (va_A [(h0, .inr (1, [.int 0, .int 0, .int 0]))] sz)) 0 0 (va_A [(h0, .inr (1, [.int 0, .int 0, .int 0]))] sz) := by
  refine Met.ofW (cc := cX1_init) (maxL := 1) (ret := none) (by decide) rfl ?_
  intro p e s m args below meth c s₁ Bd hml hv
  obtain ⟨rfl, hsz, hP, hK, hD0⟩ := hv
  have hx := Bd.exec
  have hb := Bd.bytes
  have hr := Bd.returns
  have hg : ∀ w ∈ GT, w.before ([.ref h0] : List Value).toArray s = true := fun w h => atoms_spec (ws := Cond.code yX1_init cX1_init 1 none :: GT) Bd.pre w (List.mem_cons_of_mem _ h)
  have hown : s.vm.findClass RX1 = some m.cls := findClass_of_methodNamed Bd.named
  have hlocks := Bd.notSynchronized
  have hin : meth.name = "<init>" := (name_of_methodNamed Bd.named Bd.method).1
  subst hsz
  have hD := hD0.self (sz := s.heap.size)
  generalize hAe : va_A [(h0, .inr (1, [.int 0, .int 0, .int 0]))] s.heap.size = A at hD ⊢
  have hA : ∀ q : Nat, s.heap.size ≤ q → A q := fun q h => by rw [← hAe]; exact Or.inr h
  have hS : va_S A s.heap s.heap [] := va_S.rf
  have hl := lv_entry ([.ref h0]) (n := 1) (Nat.le_of_ble_eq_true rfl)
  rw [lg_entry_eq]
  generalize (lg_sl ([.ref h0]) ++ List.replicate (1 - (lg_sl ([.ref h0])).length) Slot.unset).toArray = ls at hl ⊢
  have hl : lv_has ls 1 [(0, .ref h0)] := hl
  refine lv_aload_n hx hb dX1_init_0 rfl (lv_at hl 0 rfl) ?_
  refine W.objInit hx hb hown (hg _ wt_197) (hg _ wt_26) (hg _ wt_27) rfl (by rw [hml]; exact hl.1) rfl dX1_init_1 (Nat.le_of_ble_eq_true rfl) (Nat.le_of_ble_eq_true rfl) ?_
  refine W.eq (g2 := F0 m 4 ls []) rfl ?_
  obtain ⟨hP9, hD9⟩ := va_sub2 (ws' := [(h0, .inr (1, [.int 0, .int 0, .int 0]))]) hP hD [0] (by decide +kernel) rfl
  refine W.widen (k := 0) (n := 0) (Nat.le_of_ble_eq_true rfl) (Nat.le_of_ble_eq_true rfl) ?_
  exact W.vret hx hb hr (fun t ht hW => ⟨⟨(fun k => match k with  | _ => 0), rfl, trivial, ⟨by rw [ht]; exact hP9, hD9⟩⟩, hS.F ht⟩) hS.2.2 dX1_init_4

set_option maxHeartbeats 1000000 in
set_option maxRecDepth 100000 in
theorem c_X9_init (l : Launch) (dC : Nat → ClassId) (dI : Nat → Nat → Nat) (G : Nat → ClassId) (sz : Nat) (h0 : Nat)  : Met l yX9_init (Cond.code yX9_init cX9_init 1 none :: GT) ({ frames := 1, cells := 6, slots := 48, locals := 24 } : Room) (PcW [.ref h0] dC dI G [(h0, .inr (9, [.int 0, .int 0, .int 0, .null, .null, .null, .null, .null, .null]))] sz) (va_Qv (fun (u : (Nat → Nat)) => match u with | v => True) (fun (u : (Nat → Nat)) (t : State) => match u with | v => va_P (dC, dI) vwCl [(h0, .inr (9, [.int 0, .int 0, .int 5, .ref (v 0), .ref (v 1), .ref (v 2), .ref (v 3), .ref (v 4), .ref (v 5)])), ((v 0), .inl (G 0, 10, .inl (fun _ => 0))), ((v 1), .inl (G 0, 10, .inl (fun _ => 0))), ((v 2), .inl (G 0, 10, .inl (fun _ => 0))), ((v 3), .inl (G 0, 6, .inl (fun _ => 0))), ((v 4), .inl (G 0, 6, .inl (fun _ => 0))), ((v 5), .inl (G 0, 6, .inl (fun _ => 0)))] t.heap ∧ va_D (va_A [(h0, .inr (9, [.int 0, .int 0, .int 0, .null, .null, .null, .null, .null, .null]))] sz) [(h0, .inr (9, [.int 0, .int 0, .int 5, .ref (v 0), .ref (v 1), .ref (v 2), .ref (v 3), .ref (v 4), .ref (v 5)])), ((v 0), .inl (G 0, 10, .inl (fun _ => 0))), ((v 1), .inl (G 0, 10, .inl (fun _ => 0))), ((v 2), .inl (G 0, 10, .inl (fun _ => 0))), ((v 3), .inl (G 0, 6, .inl (fun _ => 0))), ((v 4), .inl (G 0, 6, .inl (fun _ => 0))), ((v 5), .inl (G 0, 6, .inl (fun _ => 0)))]) (va_A [(h0, .inr (9, [.int 0, .int 0, .int 0, .null, .null, .null, .null, .null, .null]))] sz)) 6 48 (va_A [(h0, .inr (9, [.int 0, .int 0, .int 0, .null, .null, .null, .null, .null, .null]))] sz) := by
  refine Met.ofW (cc := cX9_init) (maxL := 1) (ret := none) (by decide) rfl ?_
  intro p e s m args below meth c s₁ Bd hml hv
  obtain ⟨rfl, hsz, hP, hK, hD0⟩ := hv
  have hx := Bd.exec
  have hb := Bd.bytes
  have hr := Bd.returns
  have hg : ∀ w ∈ GT, w.before ([.ref h0] : List Value).toArray s = true := fun w h => atoms_spec (ws := Cond.code yX9_init cX9_init 1 none :: GT) Bd.pre w (List.mem_cons_of_mem _ h)
  have hown : s.vm.findClass RX9 = some m.cls := findClass_of_methodNamed Bd.named
  have hlocks := Bd.notSynchronized
  have hin : meth.name = "<init>" := (name_of_methodNamed Bd.named Bd.method).1
  subst hsz
  have hD := hD0.self (sz := s.heap.size)
  generalize hAe : va_A [(h0, .inr (9, [.int 0, .int 0, .int 0, .null, .null, .null, .null, .null, .null]))] s.heap.size = A at hD ⊢
  have hA : ∀ q : Nat, s.heap.size ≤ q → A q := fun q h => by rw [← hAe]; exact Or.inr h
  have hS : va_S A s.heap s.heap [] := va_S.rf
  have hl := lv_entry ([.ref h0]) (n := 1) (Nat.le_of_ble_eq_true rfl)
  rw [lg_entry_eq]
  generalize (lg_sl ([.ref h0]) ++ List.replicate (1 - (lg_sl ([.ref h0])).length) Slot.unset).toArray = ls at hl ⊢
  have hl : lv_has ls 1 [(0, .ref h0)] := hl
  refine lv_aload_n hx hb dX9_init_0 rfl (lv_at hl 0 rfl) ?_
  refine W.objInit hx hb hown (hg _ wt_55) (hg _ wt_26) (hg _ wt_27) rfl (by rw [hml]; exact hl.1) rfl dX9_init_1 (Nat.le_of_ble_eq_true rfl) (Nat.le_of_ble_eq_true rfl) ?_
  refine W.eq (g2 := F0 m 4 ls []) rfl ?_
  refine lv_aload_n hx hb dX9_init_4 rfl (lv_at hl 0 rfl) ?_
  refine lv_iconst (v := 5) hx hb dX9_init_5 rfl ?_
  refine va_put (D := (dC, dI)) (ci := 9) (v := .int 5) (ty := .int) (C := RX9) (T := TX9) (N := 9) hx hb hg inG9 tyX9 tyX9_ok nmX9 hown hK.1 hP hD hS 0 rfl rfl 2 (Nat.le_of_ble_eq_true rfl) (hg _ wt_66) (fun _ h9 => h9) rfl (by decide +kernel) rfl rfl (Nat.le_of_ble_eq_true rfl) dX9_init_6 (fun H locs hP hD hS => ?_)
  obtain ⟨hP, hD⟩ := va_rls (ws' := [(h0, .inr (9, [.int 0, .int 0, .int 5, .null, .null, .null, .null, .null, .null]))]) hP hD rfl
  refine lv_aload_n hx hb dX9_init_9 rfl (lv_at hl 0 rfl) ?_
  refine lv_bipush (v := 10) hx hb dX9_init_10 rfl ?_
  refine va_newa (atype := .int) (N' := 10) (a0 := (10, .inl (fun _ => 0))) hx hb (hg _ wt_49) rfl hK.1 hP hD hS hA (fun _ => rfl) (by decide) (by decide) (by decide) (Nat.le_of_ble_eq_true rfl) (Nat.le_of_ble_eq_true rfl) dX9_init_12 (fun q1 cA H hK9 hP hD hS => ?_)
  obtain rfl := uniA hK9 0 rfl
  obtain ⟨hP, hD⟩ := va_rls (ws' := [(h0, .inr (9, [.int 0, .int 0, .int 5, .null, .null, .null, .null, .null, .null])), (q1, .inl (G 0, 10, .inl (fun _ => 0)))]) hP hD rfl
  refine W.widen (k := 1) (n := 10) (Nat.le_of_ble_eq_true rfl) (Nat.le_of_ble_eq_true rfl) ?_
  refine va_putF (D := (dC, dI)) (ci := 9) (v := .ref q1) (ty := (.array .int)) (C := RX9) (T := TX9) (N := 9) hx hb hg inG9 tyX9 tyX9_ok nmX9 hown hK.1 hP hD hS 0 rfl rfl 3 (Nat.le_of_ble_eq_true rfl) (hg _ wt_73) (fun _ h9 => h9) rfl hin rfl (by decide +kernel) rfl rfl (Nat.le_of_ble_eq_true rfl) dX9_init_14 (fun H locs hP hD hS => ?_)
  obtain ⟨hP, hD⟩ := va_rls (ws' := [(h0, .inr (9, [.int 0, .int 0, .int 5, .ref q1, .null, .null, .null, .null, .null])), (q1, .inl (G 0, 10, .inl (fun _ => 0)))]) hP hD rfl
  refine lv_aload_n hx hb dX9_init_17 rfl (lv_at hl 0 rfl) ?_
  refine lv_bipush (v := 10) hx hb dX9_init_18 rfl ?_
  refine va_newa (atype := .int) (N' := 10) (a0 := (10, .inl (fun _ => 0))) hx hb (hg _ wt_49) rfl hK.1 hP hD hS hA (fun _ => rfl) (by decide) (by decide) (by decide) (Nat.le_of_ble_eq_true rfl) (Nat.le_of_ble_eq_true rfl) dX9_init_20 (fun q2 cA H hK9 hP hD hS => ?_)
  obtain rfl := uniA hK9 0 rfl
  obtain ⟨hP, hD⟩ := va_rls (ws' := [(h0, .inr (9, [.int 0, .int 0, .int 5, .ref q1, .null, .null, .null, .null, .null])), (q1, .inl (G 0, 10, .inl (fun _ => 0))), (q2, .inl (G 0, 10, .inl (fun _ => 0)))]) hP hD rfl
  refine W.widen (k := 2) (n := 20) (Nat.le_of_ble_eq_true rfl) (Nat.le_of_ble_eq_true rfl) ?_
  refine va_putF (D := (dC, dI)) (ci := 9) (v := .ref q2) (ty := (.array .int)) (C := RX9) (T := TX9) (N := 9) hx hb hg inG9 tyX9 tyX9_ok nmX9 hown hK.1 hP hD hS 0 rfl rfl 4 (Nat.le_of_ble_eq_true rfl) (hg _ wt_75) (fun _ h9 => h9) rfl hin rfl (by decide +kernel) rfl rfl (Nat.le_of_ble_eq_true rfl) dX9_init_22 (fun H locs hP hD hS => ?_)
  obtain ⟨hP, hD⟩ := va_rls (ws' := [(h0, .inr (9, [.int 0, .int 0, .int 5, .ref q1, .ref q2, .null, .null, .null, .null])), (q1, .inl (G 0, 10, .inl (fun _ => 0))), (q2, .inl (G 0, 10, .inl (fun _ => 0)))]) hP hD rfl
  refine lv_aload_n hx hb dX9_init_25 rfl (lv_at hl 0 rfl) ?_
  refine lv_bipush (v := 10) hx hb dX9_init_26 rfl ?_
  refine va_newa (atype := .int) (N' := 10) (a0 := (10, .inl (fun _ => 0))) hx hb (hg _ wt_49) rfl hK.1 hP hD hS hA (fun _ => rfl) (by decide) (by decide) (by decide) (Nat.le_of_ble_eq_true rfl) (Nat.le_of_ble_eq_true rfl) dX9_init_28 (fun q3 cA H hK9 hP hD hS => ?_)
  obtain rfl := uniA hK9 0 rfl
  obtain ⟨hP, hD⟩ := va_rls (ws' := [(h0, .inr (9, [.int 0, .int 0, .int 5, .ref q1, .ref q2, .null, .null, .null, .null])), (q1, .inl (G 0, 10, .inl (fun _ => 0))), (q2, .inl (G 0, 10, .inl (fun _ => 0))), (q3, .inl (G 0, 10, .inl (fun _ => 0)))]) hP hD rfl
  refine W.widen (k := 3) (n := 30) (Nat.le_of_ble_eq_true rfl) (Nat.le_of_ble_eq_true rfl) ?_
  refine va_putF (D := (dC, dI)) (ci := 9) (v := .ref q3) (ty := (.array .int)) (C := RX9) (T := TX9) (N := 9) hx hb hg inG9 tyX9 tyX9_ok nmX9 hown hK.1 hP hD hS 0 rfl rfl 5 (Nat.le_of_ble_eq_true rfl) (hg _ wt_77) (fun _ h9 => h9) rfl hin rfl (by decide +kernel) rfl rfl (Nat.le_of_ble_eq_true rfl) dX9_init_30 (fun H locs hP hD hS => ?_)
  obtain ⟨hP, hD⟩ := va_rls (ws' := [(h0, .inr (9, [.int 0, .int 0, .int 5, .ref q1, .ref q2, .ref q3, .null, .null, .null])), (q1, .inl (G 0, 10, .inl (fun _ => 0))), (q2, .inl (G 0, 10, .inl (fun _ => 0))), (q3, .inl (G 0, 10, .inl (fun _ => 0)))]) hP hD rfl
  refine lv_aload_n hx hb dX9_init_33 rfl (lv_at hl 0 rfl) ?_
  refine lv_bipush (v := 6) hx hb dX9_init_34 rfl ?_
  refine va_newa (atype := .int) (N' := 6) (a0 := (6, .inl (fun _ => 0))) hx hb (hg _ wt_49) rfl hK.1 hP hD hS hA (fun _ => rfl) (by decide) (by decide) (by decide) (Nat.le_of_ble_eq_true rfl) (Nat.le_of_ble_eq_true rfl) dX9_init_36 (fun q4 cA H hK9 hP hD hS => ?_)
  obtain rfl := uniA hK9 0 rfl
  obtain ⟨hP, hD⟩ := va_rls (ws' := [(h0, .inr (9, [.int 0, .int 0, .int 5, .ref q1, .ref q2, .ref q3, .null, .null, .null])), (q1, .inl (G 0, 10, .inl (fun _ => 0))), (q2, .inl (G 0, 10, .inl (fun _ => 0))), (q3, .inl (G 0, 10, .inl (fun _ => 0))), (q4, .inl (G 0, 6, .inl (fun _ => 0)))]) hP hD rfl
  refine W.widen (k := 4) (n := 36) (Nat.le_of_ble_eq_true rfl) (Nat.le_of_ble_eq_true rfl) ?_
  refine va_putF (D := (dC, dI)) (ci := 9) (v := .ref q4) (ty := (.array .int)) (C := RX9) (T := TX9) (N := 9) hx hb hg inG9 tyX9 tyX9_ok nmX9 hown hK.1 hP hD hS 0 rfl rfl 6 (Nat.le_of_ble_eq_true rfl) (hg _ wt_80) (fun _ h9 => h9) rfl hin rfl (by decide +kernel) rfl rfl (Nat.le_of_ble_eq_true rfl) dX9_init_38 (fun H locs hP hD hS => ?_)
  obtain ⟨hP, hD⟩ := va_rls (ws' := [(h0, .inr (9, [.int 0, .int 0, .int 5, .ref q1, .ref q2, .ref q3, .ref q4, .null, .null])), (q1, .inl (G 0, 10, .inl (fun _ => 0))), (q2, .inl (G 0, 10, .inl (fun _ => 0))), (q3, .inl (G 0, 10, .inl (fun _ => 0))), (q4, .inl (G 0, 6, .inl (fun _ => 0)))]) hP hD rfl
  refine lv_aload_n hx hb dX9_init_41 rfl (lv_at hl 0 rfl) ?_
  refine lv_bipush (v := 6) hx hb dX9_init_42 rfl ?_
  refine va_newa (atype := .int) (N' := 6) (a0 := (6, .inl (fun _ => 0))) hx hb (hg _ wt_49) rfl hK.1 hP hD hS hA (fun _ => rfl) (by decide) (by decide) (by decide) (Nat.le_of_ble_eq_true rfl) (Nat.le_of_ble_eq_true rfl) dX9_init_44 (fun q5 cA H hK9 hP hD hS => ?_)
  obtain rfl := uniA hK9 0 rfl
  obtain ⟨hP, hD⟩ := va_rls (ws' := [(h0, .inr (9, [.int 0, .int 0, .int 5, .ref q1, .ref q2, .ref q3, .ref q4, .null, .null])), (q1, .inl (G 0, 10, .inl (fun _ => 0))), (q2, .inl (G 0, 10, .inl (fun _ => 0))), (q3, .inl (G 0, 10, .inl (fun _ => 0))), (q4, .inl (G 0, 6, .inl (fun _ => 0))), (q5, .inl (G 0, 6, .inl (fun _ => 0)))]) hP hD rfl
  refine W.widen (k := 5) (n := 42) (Nat.le_of_ble_eq_true rfl) (Nat.le_of_ble_eq_true rfl) ?_
  refine va_putF (D := (dC, dI)) (ci := 9) (v := .ref q5) (ty := (.array .int)) (C := RX9) (T := TX9) (N := 9) hx hb hg inG9 tyX9 tyX9_ok nmX9 hown hK.1 hP hD hS 0 rfl rfl 7 (Nat.le_of_ble_eq_true rfl) (hg _ wt_82) (fun _ h9 => h9) rfl hin rfl (by decide +kernel) rfl rfl (Nat.le_of_ble_eq_true rfl) dX9_init_46 (fun H locs hP hD hS => ?_)
  obtain ⟨hP, hD⟩ := va_rls (ws' := [(h0, .inr (9, [.int 0, .int 0, .int 5, .ref q1, .ref q2, .ref q3, .ref q4, .ref q5, .null])), (q1, .inl (G 0, 10, .inl (fun _ => 0))), (q2, .inl (G 0, 10, .inl (fun _ => 0))), (q3, .inl (G 0, 10, .inl (fun _ => 0))), (q4, .inl (G 0, 6, .inl (fun _ => 0))), (q5, .inl (G 0, 6, .inl (fun _ => 0)))]) hP hD rfl
  refine lv_aload_n hx hb dX9_init_49 rfl (lv_at hl 0 rfl) ?_
  refine lv_bipush (v := 6) hx hb dX9_init_50 rfl ?_
  refine va_newa (atype := .int) (N' := 6) (a0 := (6, .inl (fun _ => 0))) hx hb (hg _ wt_49) rfl hK.1 hP hD hS hA (fun _ => rfl) (by decide) (by decide) (by decide) (Nat.le_of_ble_eq_true rfl) (Nat.le_of_ble_eq_true rfl) dX9_init_52 (fun q6 cA H hK9 hP hD hS => ?_)
  obtain rfl := uniA hK9 0 rfl
  obtain ⟨hP, hD⟩ := va_rls (ws' := [(h0, .inr (9, [.int 0, .int 0, .int 5, .ref q1, .ref q2, .ref q3, .ref q4, .ref q5, .null])), (q1, .inl (G 0, 10, .inl (fun _ => 0))), (q2, .inl (G 0, 10, .inl (fun _ => 0))), (q3, .inl (G 0, 10, .inl (fun _ => 0))), (q4, .inl (G 0, 6, .inl (fun _ => 0))), (q5, .inl (G 0, 6, .inl (fun _ => 0))), (q6, .inl (G 0, 6, .inl (fun _ => 0)))]) hP hD rfl
  refine W.widen (k := 6) (n := 48) (Nat.le_of_ble_eq_true rfl) (Nat.le_of_ble_eq_true rfl) ?_
  refine va_putF (D := (dC, dI)) (ci := 9) (v := .ref q6) (ty := (.array .int)) (C := RX9) (T := TX9) (N := 9) hx hb hg inG9 tyX9 tyX9_ok nmX9 hown hK.1 hP hD hS 0 rfl rfl 8 (Nat.le_of_ble_eq_true rfl) (hg _ wt_84) (fun _ h9 => h9) rfl hin rfl (by decide +kernel) rfl rfl (Nat.le_of_ble_eq_true rfl) dX9_init_54 (fun H locs hP hD hS => ?_)
  obtain ⟨hP, hD⟩ := va_rls (ws' := [(h0, .inr (9, [.int 0, .int 0, .int 5, .ref q1, .ref q2, .ref q3, .ref q4, .ref q5, .ref q6])), (q1, .inl (G 0, 10, .inl (fun _ => 0))), (q2, .inl (G 0, 10, .inl (fun _ => 0))), (q3, .inl (G 0, 10, .inl (fun _ => 0))), (q4, .inl (G 0, 6, .inl (fun _ => 0))), (q5, .inl (G 0, 6, .inl (fun _ => 0))), (q6, .inl (G 0, 6, .inl (fun _ => 0)))]) hP hD rfl
  have hP9 := hP
  have hD9 := hD
  refine W.widen (k := 6) (n := 48) (Nat.le_of_ble_eq_true rfl) (Nat.le_of_ble_eq_true rfl) ?_
  exact W.vret hx hb hr (fun t ht hW => ⟨⟨(fun k => match k with | 0 => q1 | 1 => q2 | 2 => q3 | 3 => q4 | 4 => q5 | 5 => q6 | _ => 0), rfl, trivial, ⟨by rw [ht]; exact hP9, hD9⟩⟩, hS.F ht⟩) hS.2.2 dX9_init_57

set_option maxHeartbeats 1000000 in
set_option maxRecDepth 100000 in
theorem c_X7_init (l : Launch) (dC : Nat → ClassId) (dI : Nat → Nat → Nat) (G : Nat → ClassId) (sz : Nat) (h0 : Nat)  : Met l yX7_init (Cond.code yX7_init cX7_init 1 none :: GT) ({ frames := 1, cells := 1, slots := 320, locals := 24 } : Room) (PcW [.ref h0] dC dI G [(h0, .inr (7, [.int 0, .null]))] sz) (va_Qv (fun (u : (Nat → Nat)) => match u with | v => True) (fun (u : (Nat → Nat)) (t : State) => match u with | v => va_P (dC, dI) vwCl [(h0, .inr (7, [.int 0, .ref (v 0)])), ((v 0), .inl (G 0, 320, .inl (fun _ => 0)))] t.heap ∧ va_D (va_A [(h0, .inr (7, [.int 0, .null]))] sz) [(h0, .inr (7, [.int 0, .ref (v 0)])), ((v 0), .inl (G 0, 320, .inl (fun _ => 0)))]) (va_A [(h0, .inr (7, [.int 0, .null]))] sz)) 1 320 (va_A [(h0, .inr (7, [.int 0, .null]))] sz) := by
  refine Met.ofW (cc := cX7_init) (maxL := 1) (ret := none) (by decide) rfl ?_
  intro p e s m args below meth c s₁ Bd hml hv
  obtain ⟨rfl, hsz, hP, hK, hD0⟩ := hv
  have hx := Bd.exec
  have hb := Bd.bytes
  have hr := Bd.returns
  have hg : ∀ w ∈ GT, w.before ([.ref h0] : List Value).toArray s = true := fun w h => atoms_spec (ws := Cond.code yX7_init cX7_init 1 none :: GT) Bd.pre w (List.mem_cons_of_mem _ h)
  have hown : s.vm.findClass RX7 = some m.cls := findClass_of_methodNamed Bd.named
  have hlocks := Bd.notSynchronized
  have hin : meth.name = "<init>" := (name_of_methodNamed Bd.named Bd.method).1
  subst hsz
  have hD := hD0.self (sz := s.heap.size)
  generalize hAe : va_A [(h0, .inr (7, [.int 0, .null]))] s.heap.size = A at hD ⊢
  have hA : ∀ q : Nat, s.heap.size ≤ q → A q := fun q h => by rw [← hAe]; exact Or.inr h
  have hS : va_S A s.heap s.heap [] := va_S.rf
  have hl := lv_entry ([.ref h0]) (n := 1) (Nat.le_of_ble_eq_true rfl)
  rw [lg_entry_eq]
  generalize (lg_sl ([.ref h0]) ++ List.replicate (1 - (lg_sl ([.ref h0])).length) Slot.unset).toArray = ls at hl ⊢
  have hl : lv_has ls 1 [(0, .ref h0)] := hl
  refine lv_aload_n hx hb dX7_init_0 rfl (lv_at hl 0 rfl) ?_
  refine W.objInit hx hb hown (hg _ wt_39) (hg _ wt_26) (hg _ wt_27) rfl (by rw [hml]; exact hl.1) rfl dX7_init_1 (Nat.le_of_ble_eq_true rfl) (Nat.le_of_ble_eq_true rfl) ?_
  refine W.eq (g2 := F0 m 4 ls []) rfl ?_
  refine lv_aload_n hx hb dX7_init_4 rfl (lv_at hl 0 rfl) ?_
  refine lv_sipush (v := 320) hx hb dX7_init_5 rfl ?_
  refine va_newa (atype := .int) (N' := 320) (a0 := (320, .inl (fun _ => 0))) hx hb (hg _ wt_49) rfl hK.1 hP hD hS hA (fun _ => rfl) (by decide) (by decide) (by decide) (Nat.le_of_ble_eq_true rfl) (Nat.le_of_ble_eq_true rfl) dX7_init_8 (fun q1 cA H hK9 hP hD hS => ?_)
  obtain rfl := uniA hK9 0 rfl
  obtain ⟨hP, hD⟩ := va_rls (ws' := [(h0, .inr (7, [.int 0, .null])), (q1, .inl (G 0, 320, .inl (fun _ => 0)))]) hP hD rfl
  refine W.widen (k := 1) (n := 320) (Nat.le_of_ble_eq_true rfl) (Nat.le_of_ble_eq_true rfl) ?_
  refine va_putF (D := (dC, dI)) (ci := 7) (v := .ref q1) (ty := (.array .int)) (C := RX7) (T := TX7) (N := 2) hx hb hg inG7 tyX7 tyX7_ok nmX7 hown hK.1 hP hD hS 0 rfl rfl 1 (Nat.le_of_ble_eq_true rfl) (hg _ wt_43) (fun _ h9 => h9) rfl hin rfl (by decide +kernel) rfl rfl (Nat.le_of_ble_eq_true rfl) dX7_init_10 (fun H locs hP hD hS => ?_)
  obtain ⟨hP, hD⟩ := va_rls (ws' := [(h0, .inr (7, [.int 0, .ref q1])), (q1, .inl (G 0, 320, .inl (fun _ => 0)))]) hP hD rfl
  have hP9 := hP
  have hD9 := hD
  refine W.widen (k := 1) (n := 320) (Nat.le_of_ble_eq_true rfl) (Nat.le_of_ble_eq_true rfl) ?_
  exact W.vret hx hb hr (fun t ht hW => ⟨⟨(fun k => match k with | 0 => q1 | _ => 0), rfl, trivial, ⟨by rw [ht]; exact hP9, hD9⟩⟩, hS.F ht⟩) hS.2.2 dX7_init_13

set_option maxHeartbeats 1000000 in
set_option maxRecDepth 100000 in
theorem c_X5_init (l : Launch) (dC : Nat → ClassId) (dI : Nat → Nat → Nat) (G : Nat → ClassId) (sz : Nat) (h0 : Nat)  : Met l yX5_init (Cond.code yX5_init cX5_init 1 none :: GT) ({ frames := 2, cells := 9, slots := 379, locals := 44 } : Room) (PcW [.ref h0] dC dI G [(h0, .inr (5, [.null, .null, .int 0, .int 0, .int 0, .int 0, .int 0, .int 0, .int 0, .int 0, .int 0, .int 0]))] sz) (va_Qv (fun (u : (Nat → Nat)) => match u with | v => True) (fun (u : (Nat → Nat)) (t : State) => match u with | v => va_P (dC, dI) vwCl [(h0, .inr (5, [.ref (v 0), .ref (v 1), .int 0, .int 0, .int 0, .int 0, .int 0, .int 0, .int 0, .int 0, .int 0, .int 0])), ((v 0), .inr (7, [.int 0, .ref (v 2)])), ((v 2), .inl (G 0, 320, .inl (fun _ => 0))), ((v 1), .inr (9, [.int 0, .int 0, .int 5, .ref (v 3), .ref (v 4), .ref (v 5), .ref (v 6), .ref (v 7), .ref (v 8)])), ((v 3), .inl (G 0, 10, .inl (fun _ => 0))), ((v 4), .inl (G 0, 10, .inl (fun _ => 0))), ((v 5), .inl (G 0, 10, .inl (fun _ => 0))), ((v 6), .inl (G 0, 6, .inl (fun _ => 0))), ((v 7), .inl (G 0, 6, .inl (fun _ => 0))), ((v 8), .inl (G 0, 6, .inl (fun _ => 0)))] t.heap ∧ va_D (va_A [(h0, .inr (5, [.null, .null, .int 0, .int 0, .int 0, .int 0, .int 0, .int 0, .int 0, .int 0, .int 0, .int 0]))] sz) [(h0, .inr (5, [.ref (v 0), .ref (v 1), .int 0, .int 0, .int 0, .int 0, .int 0, .int 0, .int 0, .int 0, .int 0, .int 0])), ((v 0), .inr (7, [.int 0, .ref (v 2)])), ((v 2), .inl (G 0, 320, .inl (fun _ => 0))), ((v 1), .inr (9, [.int 0, .int 0, .int 5, .ref (v 3), .ref (v 4), .ref (v 5), .ref (v 6), .ref (v 7), .ref (v 8)])), ((v 3), .inl (G 0, 10, .inl (fun _ => 0))), ((v 4), .inl (G 0, 10, .inl (fun _ => 0))), ((v 5), .inl (G 0, 10, .inl (fun _ => 0))), ((v 6), .inl (G 0, 6, .inl (fun _ => 0))), ((v 7), .inl (G 0, 6, .inl (fun _ => 0))), ((v 8), .inl (G 0, 6, .inl (fun _ => 0)))]) (va_A [(h0, .inr (5, [.null, .null, .int 0, .int 0, .int 0, .int 0, .int 0, .int 0, .int 0, .int 0, .int 0, .int 0]))] sz)) 9 379 (va_A [(h0, .inr (5, [.null, .null, .int 0, .int 0, .int 0, .int 0, .int 0, .int 0, .int 0, .int 0, .int 0, .int 0]))] sz) := by
  refine Met.ofW (cc := cX5_init) (maxL := 1) (ret := none) (by decide) rfl ?_
  intro p e s m args below meth c s₁ Bd hml hv
  obtain ⟨rfl, hsz, hP, hK, hD0⟩ := hv
  have hx := Bd.exec
  have hb := Bd.bytes
  have hr := Bd.returns
  have hg : ∀ w ∈ GT, w.before ([.ref h0] : List Value).toArray s = true := fun w h => atoms_spec (ws := Cond.code yX5_init cX5_init 1 none :: GT) Bd.pre w (List.mem_cons_of_mem _ h)
  have hown : s.vm.findClass RX5 = some m.cls := findClass_of_methodNamed Bd.named
  have hlocks := Bd.notSynchronized
  have hin : meth.name = "<init>" := (name_of_methodNamed Bd.named Bd.method).1
  subst hsz
  have hD := hD0.self (sz := s.heap.size)
  generalize hAe : va_A [(h0, .inr (5, [.null, .null, .int 0, .int 0, .int 0, .int 0, .int 0, .int 0, .int 0, .int 0, .int 0, .int 0]))] s.heap.size = A at hD ⊢
  have hA : ∀ q : Nat, s.heap.size ≤ q → A q := fun q h => by rw [← hAe]; exact Or.inr h
  have hS : va_S A s.heap s.heap [] := va_S.rf
  have hl := lv_entry ([.ref h0]) (n := 1) (Nat.le_of_ble_eq_true rfl)
  rw [lg_entry_eq]
  generalize (lg_sl ([.ref h0]) ++ List.replicate (1 - (lg_sl ([.ref h0])).length) Slot.unset).toArray = ls at hl ⊢
  have hl : lv_has ls 1 [(0, .ref h0)] := hl
  refine lv_aload_n hx hb dX5_init_0 rfl (lv_at hl 0 rfl) ?_
  refine W.objInit hx hb hown (hg _ wt_33) (hg _ wt_26) (hg _ wt_27) rfl (by rw [hml]; exact hl.1) rfl dX5_init_1 (Nat.le_of_ble_eq_true rfl) (Nat.le_of_ble_eq_true rfl) ?_
  refine W.eq (g2 := F0 m 4 ls []) rfl ?_
  refine lv_aload_n hx hb dX5_init_4 rfl (lv_at hl 0 rfl) ?_
  refine va_new (ci := 7) (fs := [.int 0, .null]) (C := RX7) (T := TX7) (N := 2) hx hb hg inG7 tyX7 tyX7_ok hown (hg _ wt_34) (hg _ wt_35) (hg _ wt_3) hK.1 hP hD hS hA rfl nwX7 (Nat.le_of_ble_eq_true rfl) (Nat.le_of_ble_eq_true rfl) dX5_init_5 (fun q1 H hP hD hS => ?_)
  obtain ⟨hP, hD⟩ := va_rls (ws' := [(h0, .inr (5, [.null, .null, .int 0, .int 0, .int 0, .int 0, .int 0, .int 0, .int 0, .int 0, .int 0, .int 0])), (q1, .inr (7, [.int 0, .null]))]) hP hD rfl
  refine W.widen (k := 1) (n := 2) (Nat.le_of_ble_eq_true rfl) (Nat.le_of_ble_eq_true rfl) ?_
  refine lv_dup hx hb dX5_init_8 rfl ?_
  obtain ⟨hPc, hDc, hFc⟩ := va_sub3 (ws' := [(q1, .inr (7, [.int 0, .null]))]) hP hD hS hA [1] (by decide +kernel) rfl
  refine va_callv (va_runIN (As := []) (rest := [.ref q1, .ref h0]) ⟨hx, hb, hml, hown, hg⟩ (c_X7_init l dC dI G _ q1) (kwIN hg hK mfX7_init wn_36 ⟨Nat.le_of_ble_eq_true rfl, Nat.le_of_ble_eq_true rfl⟩) (preSW hK hPc hDc) rfl rfl hl.1 rfl (lv_room (Nat.le_of_ble_eq_true rfl)) dX5_init_9 ⟨Nat.le_of_ble_eq_true rfl, Nat.le_of_ble_eq_true rfl⟩) hS (fun q _ h => hFc q h) hFc (fun ur2 t H1 locs ht hvm w3 hB hz1 hk1 hS => ?_)
  obtain ⟨u4, rfl⟩ : ∃ z, z = ur2 := ⟨_, rfl⟩
  obtain ⟨hP1, hD1⟩ := hB
  rw [ht] at hP1
  obtain ⟨hP, hD⟩ := va_join (wr := [(h0, .inr (5, [.null, .null, .int 0, .int 0, .int 0, .int 0, .int 0, .int 0, .int 0, .int 0, .int 0, .int 0]))]) (w1 := [(q1, .inr (7, [.int 0, .ref (u4 0)])), ((u4 0), .inl (G 0, 320, .inl (fun _ => 0)))]) hP hD [1] [0] rfl rfl (by decide +kernel) (by decide +kernel) hk1 hFc hP1 hD1
  generalize H1 = H at hP hS ⊢
  obtain ⟨hP, hD⟩ := va_rls (ws' := [(h0, .inr (5, [.null, .null, .int 0, .int 0, .int 0, .int 0, .int 0, .int 0, .int 0, .int 0, .int 0, .int 0])), (q1, .inr (7, [.int 0, .ref (u4 0)])), ((u4 0), .inl (G 0, 320, .inl (fun _ => 0)))]) hP hD rfl
  refine W.widen (k := 2) (n := 322) (Nat.le_of_ble_eq_true rfl) (Nat.le_of_ble_eq_true rfl) ?_
  refine va_putF (D := (dC, dI)) (ci := 5) (v := .ref q1) (ty := (.object "AsleepPass$Tape")) (C := RX5) (T := TX5) (N := 12) hx hb hg inG5 tyX5 tyX5_ok nmX5 hown hK.1 hP hD hS 0 rfl rfl 0 (Nat.le_of_ble_eq_true rfl) (hg _ wt_105) (fun _ h9 => h9) rfl hin rfl (by decide +kernel) rfl rfl (Nat.le_of_ble_eq_true rfl) dX5_init_12 (fun H locs hP hD hS => ?_)
  obtain ⟨hP, hD⟩ := va_rls (ws' := [(h0, .inr (5, [.ref q1, .null, .int 0, .int 0, .int 0, .int 0, .int 0, .int 0, .int 0, .int 0, .int 0, .int 0])), (q1, .inr (7, [.int 0, .ref (u4 0)])), ((u4 0), .inl (G 0, 320, .inl (fun _ => 0)))]) hP hD rfl
  refine lv_aload_n hx hb dX5_init_15 rfl (lv_at hl 0 rfl) ?_
  refine va_new (ci := 9) (fs := [.int 0, .int 0, .int 0, .null, .null, .null, .null, .null, .null]) (C := RX9) (T := TX9) (N := 9) hx hb hg inG9 tyX9 tyX9_ok hown (hg _ wt_50) (hg _ wt_51) (hg _ wt_4) hK.1 hP hD hS hA rfl nwX9 (Nat.le_of_ble_eq_true rfl) (Nat.le_of_ble_eq_true rfl) dX5_init_16 (fun q5 H hP hD hS => ?_)
  obtain ⟨hP, hD⟩ := va_rls (ws' := [(h0, .inr (5, [.ref q1, .null, .int 0, .int 0, .int 0, .int 0, .int 0, .int 0, .int 0, .int 0, .int 0, .int 0])), (q1, .inr (7, [.int 0, .ref (u4 0)])), ((u4 0), .inl (G 0, 320, .inl (fun _ => 0))), (q5, .inr (9, [.int 0, .int 0, .int 0, .null, .null, .null, .null, .null, .null]))]) hP hD rfl
  refine W.widen (k := 3) (n := 331) (Nat.le_of_ble_eq_true rfl) (Nat.le_of_ble_eq_true rfl) ?_
  refine lv_dup hx hb dX5_init_19 rfl ?_
  obtain ⟨hPc, hDc, hFc⟩ := va_sub3 (ws' := [(q5, .inr (9, [.int 0, .int 0, .int 0, .null, .null, .null, .null, .null, .null]))]) hP hD hS hA [3] (by decide +kernel) rfl
  refine va_callv (va_runIN (As := []) (rest := [.ref q5, .ref h0]) ⟨hx, hb, hml, hown, hg⟩ (c_X9_init l dC dI G _ q5) (kwIN hg hK mfX9_init wn_52 ⟨Nat.le_of_ble_eq_true rfl, Nat.le_of_ble_eq_true rfl⟩) (preSW hK hPc hDc) rfl rfl hl.1 rfl (lv_room (Nat.le_of_ble_eq_true rfl)) dX5_init_20 ⟨Nat.le_of_ble_eq_true rfl, Nat.le_of_ble_eq_true rfl⟩) hS (fun q _ h => hFc q h) hFc (fun ur6 t H1 locs ht hvm w7 hB hz1 hk1 hS => ?_)
  obtain ⟨u8, rfl⟩ : ∃ z, z = ur6 := ⟨_, rfl⟩
  obtain ⟨hP1, hD1⟩ := hB
  rw [ht] at hP1
  obtain ⟨hP, hD⟩ := va_join (wr := [(h0, .inr (5, [.ref q1, .null, .int 0, .int 0, .int 0, .int 0, .int 0, .int 0, .int 0, .int 0, .int 0, .int 0])), (q1, .inr (7, [.int 0, .ref (u4 0)])), ((u4 0), .inl (G 0, 320, .inl (fun _ => 0)))]) (w1 := [(q5, .inr (9, [.int 0, .int 0, .int 5, .ref (u8 0), .ref (u8 1), .ref (u8 2), .ref (u8 3), .ref (u8 4), .ref (u8 5)])), ((u8 0), .inl (G 0, 10, .inl (fun _ => 0))), ((u8 1), .inl (G 0, 10, .inl (fun _ => 0))), ((u8 2), .inl (G 0, 10, .inl (fun _ => 0))), ((u8 3), .inl (G 0, 6, .inl (fun _ => 0))), ((u8 4), .inl (G 0, 6, .inl (fun _ => 0))), ((u8 5), .inl (G 0, 6, .inl (fun _ => 0)))]) hP hD [3] [0, 1, 2] rfl rfl (by decide +kernel) (by decide +kernel) hk1 hFc hP1 hD1
  generalize H1 = H at hP hS ⊢
  obtain ⟨hP, hD⟩ := va_rls (ws' := [(h0, .inr (5, [.ref q1, .null, .int 0, .int 0, .int 0, .int 0, .int 0, .int 0, .int 0, .int 0, .int 0, .int 0])), (q1, .inr (7, [.int 0, .ref (u4 0)])), ((u4 0), .inl (G 0, 320, .inl (fun _ => 0))), (q5, .inr (9, [.int 0, .int 0, .int 5, .ref (u8 0), .ref (u8 1), .ref (u8 2), .ref (u8 3), .ref (u8 4), .ref (u8 5)])), ((u8 0), .inl (G 0, 10, .inl (fun _ => 0))), ((u8 1), .inl (G 0, 10, .inl (fun _ => 0))), ((u8 2), .inl (G 0, 10, .inl (fun _ => 0))), ((u8 3), .inl (G 0, 6, .inl (fun _ => 0))), ((u8 4), .inl (G 0, 6, .inl (fun _ => 0))), ((u8 5), .inl (G 0, 6, .inl (fun _ => 0)))]) hP hD rfl
  refine W.widen (k := 9) (n := 379) (Nat.le_of_ble_eq_true rfl) (Nat.le_of_ble_eq_true rfl) ?_
  refine va_putF (D := (dC, dI)) (ci := 5) (v := .ref q5) (ty := (.object "AsleepPass$Way")) (C := RX5) (T := TX5) (N := 12) hx hb hg inG5 tyX5 tyX5_ok nmX5 hown hK.1 hP hD hS 0 rfl rfl 1 (Nat.le_of_ble_eq_true rfl) (hg _ wt_107) (fun _ h9 => h9) rfl hin rfl (by decide +kernel) rfl rfl (Nat.le_of_ble_eq_true rfl) dX5_init_23 (fun H locs hP hD hS => ?_)
  obtain ⟨hP, hD⟩ := va_rls (ws' := [(h0, .inr (5, [.ref q1, .ref q5, .int 0, .int 0, .int 0, .int 0, .int 0, .int 0, .int 0, .int 0, .int 0, .int 0])), (q1, .inr (7, [.int 0, .ref (u4 0)])), ((u4 0), .inl (G 0, 320, .inl (fun _ => 0))), (q5, .inr (9, [.int 0, .int 0, .int 5, .ref (u8 0), .ref (u8 1), .ref (u8 2), .ref (u8 3), .ref (u8 4), .ref (u8 5)])), ((u8 0), .inl (G 0, 10, .inl (fun _ => 0))), ((u8 1), .inl (G 0, 10, .inl (fun _ => 0))), ((u8 2), .inl (G 0, 10, .inl (fun _ => 0))), ((u8 3), .inl (G 0, 6, .inl (fun _ => 0))), ((u8 4), .inl (G 0, 6, .inl (fun _ => 0))), ((u8 5), .inl (G 0, 6, .inl (fun _ => 0)))]) hP hD rfl
  have hP9 := hP
  have hD9 := hD
  refine W.widen (k := 9) (n := 379) (Nat.le_of_ble_eq_true rfl) (Nat.le_of_ble_eq_true rfl) ?_
  exact W.vret hx hb hr (fun t ht hW => ⟨⟨(fun k => match k with | 0 => q1 | 1 => q5 | 2 => (u4 0) | 3 => (u8 0) | 4 => (u8 1) | 5 => (u8 2) | 6 => (u8 3) | 7 => (u8 4) | 8 => (u8 5) | _ => 0), rfl, trivial, ⟨by rw [ht]; exact hP9, hD9⟩⟩, hS.F ht⟩) hS.2.2 dX5_init_26

set_option maxHeartbeats 1000000 in
set_option maxRecDepth 100000 in
theorem c_X4_init (l : Launch) (dC : Nat → ClassId) (dI : Nat → Nat → Nat) (G : Nat → ClassId) (sz : Nat) (h0 : Nat)  : Met l yX4_init (Cond.code yX4_init cX4_init 1 none :: GT) ({ frames := 1, cells := 2, slots := 20, locals := 24 } : Room) (PcW [.ref h0] dC dI G [(h0, .inr (4, [.long 0, .null, .null]))] sz) (va_Qv (fun (u : (Nat → Nat)) => match u with | v => True) (fun (u : (Nat → Nat)) (t : State) => match u with | v => va_P (dC, dI) vwCl [(h0, .inr (4, [.long 1, .ref (v 0), .ref (v 1)])), ((v 0), .inl (G 1, 10, .inr (.inl (fun _ => 0)))), ((v 1), .inl (G 1, 10, .inr (.inl (fun _ => 0))))] t.heap ∧ va_D (va_A [(h0, .inr (4, [.long 0, .null, .null]))] sz) [(h0, .inr (4, [.long 1, .ref (v 0), .ref (v 1)])), ((v 0), .inl (G 1, 10, .inr (.inl (fun _ => 0)))), ((v 1), .inl (G 1, 10, .inr (.inl (fun _ => 0))))]) (va_A [(h0, .inr (4, [.long 0, .null, .null]))] sz)) 2 20 (va_A [(h0, .inr (4, [.long 0, .null, .null]))] sz) := by
  refine Met.ofW (cc := cX4_init) (maxL := 1) (ret := none) (by decide) rfl ?_
  intro p e s m args below meth c s₁ Bd hml hv
  obtain ⟨rfl, hsz, hP, hK, hD0⟩ := hv
  have hx := Bd.exec
  have hb := Bd.bytes
  have hr := Bd.returns
  have hg : ∀ w ∈ GT, w.before ([.ref h0] : List Value).toArray s = true := fun w h => atoms_spec (ws := Cond.code yX4_init cX4_init 1 none :: GT) Bd.pre w (List.mem_cons_of_mem _ h)
  have hown : s.vm.findClass RX4 = some m.cls := findClass_of_methodNamed Bd.named
  have hlocks := Bd.notSynchronized
  have hin : meth.name = "<init>" := (name_of_methodNamed Bd.named Bd.method).1
  subst hsz
  have hD := hD0.self (sz := s.heap.size)
  generalize hAe : va_A [(h0, .inr (4, [.long 0, .null, .null]))] s.heap.size = A at hD ⊢
  have hA : ∀ q : Nat, s.heap.size ≤ q → A q := fun q h => by rw [← hAe]; exact Or.inr h
  have hS : va_S A s.heap s.heap [] := va_S.rf
  have hl := lv_entry ([.ref h0]) (n := 1) (Nat.le_of_ble_eq_true rfl)
  rw [lg_entry_eq]
  generalize (lg_sl ([.ref h0]) ++ List.replicate (1 - (lg_sl ([.ref h0])).length) Slot.unset).toArray = ls at hl ⊢
  have hl : lv_has ls 1 [(0, .ref h0)] := hl
  refine lv_aload_n hx hb dX4_init_0 rfl (lv_at hl 0 rfl) ?_
  refine W.objInit hx hb hown (hg _ wt_155) (hg _ wt_26) (hg _ wt_27) rfl (by rw [hml]; exact hl.1) rfl dX4_init_1 (Nat.le_of_ble_eq_true rfl) (Nat.le_of_ble_eq_true rfl) ?_
  refine W.eq (g2 := F0 m 4 ls []) rfl ?_
  refine lv_aload_n hx hb dX4_init_4 rfl (lv_at hl 0 rfl) ?_
  refine lv_lconst (v := 1) hx hb dX4_init_5 (by decide) ?_
  refine va_put (D := (dC, dI)) (ci := 4) (v := .long 1) (ty := .long) (C := RX4) (T := TX4) (N := 3) hx hb hg inG4 tyX4 tyX4_ok nmX4 hown hK.1 hP hD hS 0 rfl rfl 0 (Nat.le_of_ble_eq_true rfl) (hg _ wt_156) (fun _ h9 => h9) rfl (by decide +kernel) rfl rfl (Nat.le_of_ble_eq_true rfl) dX4_init_6 (fun H locs hP hD hS => ?_)
  obtain ⟨hP, hD⟩ := va_rls (ws' := [(h0, .inr (4, [.long 1, .null, .null]))]) hP hD rfl
  refine lv_aload_n hx hb dX4_init_9 rfl (lv_at hl 0 rfl) ?_
  refine lv_bipush (v := 10) hx hb dX4_init_10 rfl ?_
  refine va_newa (atype := .long) (N' := 10) (a0 := (10, .inr (.inl (fun _ => 0)))) hx hb (hg _ wt_169) rfl hK.1 hP hD hS hA (fun _ => rfl) (by decide) (by decide) (by decide) (Nat.le_of_ble_eq_true rfl) (Nat.le_of_ble_eq_true rfl) dX4_init_12 (fun q1 cA H hK9 hP hD hS => ?_)
  obtain rfl := uniA hK9 1 rfl
  obtain ⟨hP, hD⟩ := va_rls (ws' := [(h0, .inr (4, [.long 1, .null, .null])), (q1, .inl (G 1, 10, .inr (.inl (fun _ => 0))))]) hP hD rfl
  refine W.widen (k := 1) (n := 10) (Nat.le_of_ble_eq_true rfl) (Nat.le_of_ble_eq_true rfl) ?_
  refine va_putF (D := (dC, dI)) (ci := 4) (v := .ref q1) (ty := (.array .long)) (C := RX4) (T := TX4) (N := 3) hx hb hg inG4 tyX4 tyX4_ok nmX4 hown hK.1 hP hD hS 0 rfl rfl 1 (Nat.le_of_ble_eq_true rfl) (hg _ wt_158) (fun _ h9 => h9) rfl hin rfl (by decide +kernel) rfl rfl (Nat.le_of_ble_eq_true rfl) dX4_init_14 (fun H locs hP hD hS => ?_)
  obtain ⟨hP, hD⟩ := va_rls (ws' := [(h0, .inr (4, [.long 1, .ref q1, .null])), (q1, .inl (G 1, 10, .inr (.inl (fun _ => 0))))]) hP hD rfl
  refine lv_aload_n hx hb dX4_init_17 rfl (lv_at hl 0 rfl) ?_
  refine lv_bipush (v := 10) hx hb dX4_init_18 rfl ?_
  refine va_newa (atype := .long) (N' := 10) (a0 := (10, .inr (.inl (fun _ => 0)))) hx hb (hg _ wt_169) rfl hK.1 hP hD hS hA (fun _ => rfl) (by decide) (by decide) (by decide) (Nat.le_of_ble_eq_true rfl) (Nat.le_of_ble_eq_true rfl) dX4_init_20 (fun q2 cA H hK9 hP hD hS => ?_)
  obtain rfl := uniA hK9 1 rfl
  obtain ⟨hP, hD⟩ := va_rls (ws' := [(h0, .inr (4, [.long 1, .ref q1, .null])), (q1, .inl (G 1, 10, .inr (.inl (fun _ => 0)))), (q2, .inl (G 1, 10, .inr (.inl (fun _ => 0))))]) hP hD rfl
  refine W.widen (k := 2) (n := 20) (Nat.le_of_ble_eq_true rfl) (Nat.le_of_ble_eq_true rfl) ?_
  refine va_putF (D := (dC, dI)) (ci := 4) (v := .ref q2) (ty := (.array .long)) (C := RX4) (T := TX4) (N := 3) hx hb hg inG4 tyX4 tyX4_ok nmX4 hown hK.1 hP hD hS 0 rfl rfl 2 (Nat.le_of_ble_eq_true rfl) (hg _ wt_160) (fun _ h9 => h9) rfl hin rfl (by decide +kernel) rfl rfl (Nat.le_of_ble_eq_true rfl) dX4_init_22 (fun H locs hP hD hS => ?_)
  obtain ⟨hP, hD⟩ := va_rls (ws' := [(h0, .inr (4, [.long 1, .ref q1, .ref q2])), (q1, .inl (G 1, 10, .inr (.inl (fun _ => 0)))), (q2, .inl (G 1, 10, .inr (.inl (fun _ => 0))))]) hP hD rfl
  have hP9 := hP
  have hD9 := hD
  refine W.widen (k := 2) (n := 20) (Nat.le_of_ble_eq_true rfl) (Nat.le_of_ble_eq_true rfl) ?_
  exact W.vret hx hb hr (fun t ht hW => ⟨⟨(fun k => match k with | 0 => q1 | 1 => q2 | _ => 0), rfl, trivial, ⟨by rw [ht]; exact hP9, hD9⟩⟩, hS.F ht⟩) hS.2.2 dX4_init_25

set_option maxHeartbeats 1000000 in
set_option maxRecDepth 100000 in
theorem c_X2_init (l : Launch) (dC : Nat → ClassId) (dI : Nat → Nat → Nat) (G : Nat → ClassId) (sz : Nat) (h0 : Nat)  : Met l yX2_init (Cond.code yX2_init cX2_init 1 none :: GT) ({ frames := 1, cells := 4, slots := 32, locals := 24 } : Room) (PcW [.ref h0] dC dI G [(h0, .inr (2, [.int 0, .null, .null, .null, .null]))] sz) (va_Qv (fun (u : (Nat → Nat)) => match u with | v => True) (fun (u : (Nat → Nat)) (t : State) => match u with | v => va_P (dC, dI) vwCl [(h0, .inr (2, [.int 0, .ref (v 0), .ref (v 1), .ref (v 2), .ref (v 3)])), ((v 0), .inl (G 0, 8, .inl (fun _ => 0))), ((v 1), .inl (G 0, 8, .inl (fun _ => 0))), ((v 2), .inl (G 0, 8, .inl (fun _ => 0))), ((v 3), .inl (G 0, 8, .inl (fun _ => 0)))] t.heap ∧ va_D (va_A [(h0, .inr (2, [.int 0, .null, .null, .null, .null]))] sz) [(h0, .inr (2, [.int 0, .ref (v 0), .ref (v 1), .ref (v 2), .ref (v 3)])), ((v 0), .inl (G 0, 8, .inl (fun _ => 0))), ((v 1), .inl (G 0, 8, .inl (fun _ => 0))), ((v 2), .inl (G 0, 8, .inl (fun _ => 0))), ((v 3), .inl (G 0, 8, .inl (fun _ => 0)))]) (va_A [(h0, .inr (2, [.int 0, .null, .null, .null, .null]))] sz)) 4 32 (va_A [(h0, .inr (2, [.int 0, .null, .null, .null, .null]))] sz) := by
  refine Met.ofW (cc := cX2_init) (maxL := 1) (ret := none) (by decide) rfl ?_
  intro p e s m args below meth c s₁ Bd hml hv
  obtain ⟨rfl, hsz, hP, hK, hD0⟩ := hv
  have hx := Bd.exec
  have hb := Bd.bytes
  have hr := Bd.returns
  have hg : ∀ w ∈ GT, w.before ([.ref h0] : List Value).toArray s = true := fun w h => atoms_spec (ws := Cond.code yX2_init cX2_init 1 none :: GT) Bd.pre w (List.mem_cons_of_mem _ h)
  have hown : s.vm.findClass RX2 = some m.cls := findClass_of_methodNamed Bd.named
  have hlocks := Bd.notSynchronized
  have hin : meth.name = "<init>" := (name_of_methodNamed Bd.named Bd.method).1
  subst hsz
  have hD := hD0.self (sz := s.heap.size)
  generalize hAe : va_A [(h0, .inr (2, [.int 0, .null, .null, .null, .null]))] s.heap.size = A at hD ⊢
  have hA : ∀ q : Nat, s.heap.size ≤ q → A q := fun q h => by rw [← hAe]; exact Or.inr h
  have hS : va_S A s.heap s.heap [] := va_S.rf
  have hl := lv_entry ([.ref h0]) (n := 1) (Nat.le_of_ble_eq_true rfl)
  rw [lg_entry_eq]
  generalize (lg_sl ([.ref h0]) ++ List.replicate (1 - (lg_sl ([.ref h0])).length) Slot.unset).toArray = ls at hl ⊢
  have hl : lv_has ls 1 [(0, .ref h0)] := hl
  refine lv_aload_n hx hb dX2_init_0 rfl (lv_at hl 0 rfl) ?_
  refine W.objInit hx hb hown (hg _ wt_216) (hg _ wt_26) (hg _ wt_27) rfl (by rw [hml]; exact hl.1) rfl dX2_init_1 (Nat.le_of_ble_eq_true rfl) (Nat.le_of_ble_eq_true rfl) ?_
  refine W.eq (g2 := F0 m 4 ls []) rfl ?_
  refine lv_aload_n hx hb dX2_init_4 rfl (lv_at hl 0 rfl) ?_
  refine lv_bipush (v := 8) hx hb dX2_init_5 rfl ?_
  refine va_newa (atype := .int) (N' := 8) (a0 := (8, .inl (fun _ => 0))) hx hb (hg _ wt_49) rfl hK.1 hP hD hS hA (fun _ => rfl) (by decide) (by decide) (by decide) (Nat.le_of_ble_eq_true rfl) (Nat.le_of_ble_eq_true rfl) dX2_init_7 (fun q1 cA H hK9 hP hD hS => ?_)
  obtain rfl := uniA hK9 0 rfl
  obtain ⟨hP, hD⟩ := va_rls (ws' := [(h0, .inr (2, [.int 0, .null, .null, .null, .null])), (q1, .inl (G 0, 8, .inl (fun _ => 0)))]) hP hD rfl
  refine W.widen (k := 1) (n := 8) (Nat.le_of_ble_eq_true rfl) (Nat.le_of_ble_eq_true rfl) ?_
  refine va_putF (D := (dC, dI)) (ci := 2) (v := .ref q1) (ty := (.array .int)) (C := RX2) (T := TX2) (N := 5) hx hb hg inG2 tyX2 tyX2_ok nmX2 hown hK.1 hP hD hS 0 rfl rfl 1 (Nat.le_of_ble_eq_true rfl) (hg _ wt_219) (fun _ h9 => h9) rfl hin rfl (by decide +kernel) rfl rfl (Nat.le_of_ble_eq_true rfl) dX2_init_9 (fun H locs hP hD hS => ?_)
  obtain ⟨hP, hD⟩ := va_rls (ws' := [(h0, .inr (2, [.int 0, .ref q1, .null, .null, .null])), (q1, .inl (G 0, 8, .inl (fun _ => 0)))]) hP hD rfl
  refine lv_aload_n hx hb dX2_init_12 rfl (lv_at hl 0 rfl) ?_
  refine lv_bipush (v := 8) hx hb dX2_init_13 rfl ?_
  refine va_newa (atype := .int) (N' := 8) (a0 := (8, .inl (fun _ => 0))) hx hb (hg _ wt_49) rfl hK.1 hP hD hS hA (fun _ => rfl) (by decide) (by decide) (by decide) (Nat.le_of_ble_eq_true rfl) (Nat.le_of_ble_eq_true rfl) dX2_init_15 (fun q2 cA H hK9 hP hD hS => ?_)
  obtain rfl := uniA hK9 0 rfl
  obtain ⟨hP, hD⟩ := va_rls (ws' := [(h0, .inr (2, [.int 0, .ref q1, .null, .null, .null])), (q1, .inl (G 0, 8, .inl (fun _ => 0))), (q2, .inl (G 0, 8, .inl (fun _ => 0)))]) hP hD rfl
  refine W.widen (k := 2) (n := 16) (Nat.le_of_ble_eq_true rfl) (Nat.le_of_ble_eq_true rfl) ?_
  refine va_putF (D := (dC, dI)) (ci := 2) (v := .ref q2) (ty := (.array .int)) (C := RX2) (T := TX2) (N := 5) hx hb hg inG2 tyX2 tyX2_ok nmX2 hown hK.1 hP hD hS 0 rfl rfl 2 (Nat.le_of_ble_eq_true rfl) (hg _ wt_220) (fun _ h9 => h9) rfl hin rfl (by decide +kernel) rfl rfl (Nat.le_of_ble_eq_true rfl) dX2_init_17 (fun H locs hP hD hS => ?_)
  obtain ⟨hP, hD⟩ := va_rls (ws' := [(h0, .inr (2, [.int 0, .ref q1, .ref q2, .null, .null])), (q1, .inl (G 0, 8, .inl (fun _ => 0))), (q2, .inl (G 0, 8, .inl (fun _ => 0)))]) hP hD rfl
  refine lv_aload_n hx hb dX2_init_20 rfl (lv_at hl 0 rfl) ?_
  refine lv_bipush (v := 8) hx hb dX2_init_21 rfl ?_
  refine va_newa (atype := .int) (N' := 8) (a0 := (8, .inl (fun _ => 0))) hx hb (hg _ wt_49) rfl hK.1 hP hD hS hA (fun _ => rfl) (by decide) (by decide) (by decide) (Nat.le_of_ble_eq_true rfl) (Nat.le_of_ble_eq_true rfl) dX2_init_23 (fun q3 cA H hK9 hP hD hS => ?_)
  obtain rfl := uniA hK9 0 rfl
  obtain ⟨hP, hD⟩ := va_rls (ws' := [(h0, .inr (2, [.int 0, .ref q1, .ref q2, .null, .null])), (q1, .inl (G 0, 8, .inl (fun _ => 0))), (q2, .inl (G 0, 8, .inl (fun _ => 0))), (q3, .inl (G 0, 8, .inl (fun _ => 0)))]) hP hD rfl
  refine W.widen (k := 3) (n := 24) (Nat.le_of_ble_eq_true rfl) (Nat.le_of_ble_eq_true rfl) ?_
  refine va_putF (D := (dC, dI)) (ci := 2) (v := .ref q3) (ty := (.array .int)) (C := RX2) (T := TX2) (N := 5) hx hb hg inG2 tyX2 tyX2_ok nmX2 hown hK.1 hP hD hS 0 rfl rfl 3 (Nat.le_of_ble_eq_true rfl) (hg _ wt_221) (fun _ h9 => h9) rfl hin rfl (by decide +kernel) rfl rfl (Nat.le_of_ble_eq_true rfl) dX2_init_25 (fun H locs hP hD hS => ?_)
  obtain ⟨hP, hD⟩ := va_rls (ws' := [(h0, .inr (2, [.int 0, .ref q1, .ref q2, .ref q3, .null])), (q1, .inl (G 0, 8, .inl (fun _ => 0))), (q2, .inl (G 0, 8, .inl (fun _ => 0))), (q3, .inl (G 0, 8, .inl (fun _ => 0)))]) hP hD rfl
  refine lv_aload_n hx hb dX2_init_28 rfl (lv_at hl 0 rfl) ?_
  refine lv_bipush (v := 8) hx hb dX2_init_29 rfl ?_
  refine va_newa (atype := .int) (N' := 8) (a0 := (8, .inl (fun _ => 0))) hx hb (hg _ wt_49) rfl hK.1 hP hD hS hA (fun _ => rfl) (by decide) (by decide) (by decide) (Nat.le_of_ble_eq_true rfl) (Nat.le_of_ble_eq_true rfl) dX2_init_31 (fun q4 cA H hK9 hP hD hS => ?_)
  obtain rfl := uniA hK9 0 rfl
  obtain ⟨hP, hD⟩ := va_rls (ws' := [(h0, .inr (2, [.int 0, .ref q1, .ref q2, .ref q3, .null])), (q1, .inl (G 0, 8, .inl (fun _ => 0))), (q2, .inl (G 0, 8, .inl (fun _ => 0))), (q3, .inl (G 0, 8, .inl (fun _ => 0))), (q4, .inl (G 0, 8, .inl (fun _ => 0)))]) hP hD rfl
  refine W.widen (k := 4) (n := 32) (Nat.le_of_ble_eq_true rfl) (Nat.le_of_ble_eq_true rfl) ?_
  refine va_putF (D := (dC, dI)) (ci := 2) (v := .ref q4) (ty := (.array .int)) (C := RX2) (T := TX2) (N := 5) hx hb hg inG2 tyX2 tyX2_ok nmX2 hown hK.1 hP hD hS 0 rfl rfl 4 (Nat.le_of_ble_eq_true rfl) (hg _ wt_222) (fun _ h9 => h9) rfl hin rfl (by decide +kernel) rfl rfl (Nat.le_of_ble_eq_true rfl) dX2_init_33 (fun H locs hP hD hS => ?_)
  obtain ⟨hP, hD⟩ := va_rls (ws' := [(h0, .inr (2, [.int 0, .ref q1, .ref q2, .ref q3, .ref q4])), (q1, .inl (G 0, 8, .inl (fun _ => 0))), (q2, .inl (G 0, 8, .inl (fun _ => 0))), (q3, .inl (G 0, 8, .inl (fun _ => 0))), (q4, .inl (G 0, 8, .inl (fun _ => 0)))]) hP hD rfl
  have hP9 := hP
  have hD9 := hD
  refine W.widen (k := 4) (n := 32) (Nat.le_of_ble_eq_true rfl) (Nat.le_of_ble_eq_true rfl) ?_
  exact W.vret hx hb hr (fun t ht hW => ⟨⟨(fun k => match k with | 0 => q1 | 1 => q2 | 2 => q3 | 3 => q4 | _ => 0), rfl, trivial, ⟨by rw [ht]; exact hP9, hD9⟩⟩, hS.F ht⟩) hS.2.2 dX2_init_36

set_option maxHeartbeats 1000000 in
set_option maxRecDepth 100000 in
theorem c_X3_init (l : Launch) (dC : Nat → ClassId) (dI : Nat → Nat → Nat) (G : Nat → ClassId) (sz : Nat) (h0 : Nat)  : Met l yX3_init (Cond.code yX3_init cX3_init 1 none :: GT) ({ frames := 1, cells := 2, slots := 12, locals := 24 } : Room) (PcW [.ref h0] dC dI G [(h0, .inr (3, [.int 0, .null, .null]))] sz) (va_Qv (fun (u : (Nat → Nat)) => match u with | v => True) (fun (u : (Nat → Nat)) (t : State) => match u with | v => va_P (dC, dI) vwCl [(h0, .inr (3, [.int 0, .ref (v 0), .ref (v 1)])), ((v 0), .inl (G 0, 6, .inl (fun _ => 0))), ((v 1), .inl (G 0, 6, .inl (fun _ => 0)))] t.heap ∧ va_D (va_A [(h0, .inr (3, [.int 0, .null, .null]))] sz) [(h0, .inr (3, [.int 0, .ref (v 0), .ref (v 1)])), ((v 0), .inl (G 0, 6, .inl (fun _ => 0))), ((v 1), .inl (G 0, 6, .inl (fun _ => 0)))]) (va_A [(h0, .inr (3, [.int 0, .null, .null]))] sz)) 2 12 (va_A [(h0, .inr (3, [.int 0, .null, .null]))] sz) := by
  refine Met.ofW (cc := cX3_init) (maxL := 1) (ret := none) (by decide) rfl ?_
  intro p e s m args below meth c s₁ Bd hml hv
  obtain ⟨rfl, hsz, hP, hK, hD0⟩ := hv
  have hx := Bd.exec
  have hb := Bd.bytes
  have hr := Bd.returns
  have hg : ∀ w ∈ GT, w.before ([.ref h0] : List Value).toArray s = true := fun w h => atoms_spec (ws := Cond.code yX3_init cX3_init 1 none :: GT) Bd.pre w (List.mem_cons_of_mem _ h)
  have hown : s.vm.findClass RX3 = some m.cls := findClass_of_methodNamed Bd.named
  have hlocks := Bd.notSynchronized
  have hin : meth.name = "<init>" := (name_of_methodNamed Bd.named Bd.method).1
  subst hsz
  have hD := hD0.self (sz := s.heap.size)
  generalize hAe : va_A [(h0, .inr (3, [.int 0, .null, .null]))] s.heap.size = A at hD ⊢
  have hA : ∀ q : Nat, s.heap.size ≤ q → A q := fun q h => by rw [← hAe]; exact Or.inr h
  have hS : va_S A s.heap s.heap [] := va_S.rf
  have hl := lv_entry ([.ref h0]) (n := 1) (Nat.le_of_ble_eq_true rfl)
  rw [lg_entry_eq]
  generalize (lg_sl ([.ref h0]) ++ List.replicate (1 - (lg_sl ([.ref h0])).length) Slot.unset).toArray = ls at hl ⊢
  have hl : lv_has ls 1 [(0, .ref h0)] := hl
  refine lv_aload_n hx hb dX3_init_0 rfl (lv_at hl 0 rfl) ?_
  refine W.objInit hx hb hown (hg _ wt_239) (hg _ wt_26) (hg _ wt_27) rfl (by rw [hml]; exact hl.1) rfl dX3_init_1 (Nat.le_of_ble_eq_true rfl) (Nat.le_of_ble_eq_true rfl) ?_
  refine W.eq (g2 := F0 m 4 ls []) rfl ?_
  refine lv_aload_n hx hb dX3_init_4 rfl (lv_at hl 0 rfl) ?_
  refine lv_bipush (v := 6) hx hb dX3_init_5 rfl ?_
  refine va_newa (atype := .int) (N' := 6) (a0 := (6, .inl (fun _ => 0))) hx hb (hg _ wt_49) rfl hK.1 hP hD hS hA (fun _ => rfl) (by decide) (by decide) (by decide) (Nat.le_of_ble_eq_true rfl) (Nat.le_of_ble_eq_true rfl) dX3_init_7 (fun q1 cA H hK9 hP hD hS => ?_)
  obtain rfl := uniA hK9 0 rfl
  obtain ⟨hP, hD⟩ := va_rls (ws' := [(h0, .inr (3, [.int 0, .null, .null])), (q1, .inl (G 0, 6, .inl (fun _ => 0)))]) hP hD rfl
  refine W.widen (k := 1) (n := 6) (Nat.le_of_ble_eq_true rfl) (Nat.le_of_ble_eq_true rfl) ?_
  refine va_putF (D := (dC, dI)) (ci := 3) (v := .ref q1) (ty := (.array .int)) (C := RX3) (T := TX3) (N := 3) hx hb hg inG3 tyX3 tyX3_ok nmX3 hown hK.1 hP hD hS 0 rfl rfl 1 (Nat.le_of_ble_eq_true rfl) (hg _ wt_242) (fun _ h9 => h9) rfl hin rfl (by decide +kernel) rfl rfl (Nat.le_of_ble_eq_true rfl) dX3_init_9 (fun H locs hP hD hS => ?_)
  obtain ⟨hP, hD⟩ := va_rls (ws' := [(h0, .inr (3, [.int 0, .ref q1, .null])), (q1, .inl (G 0, 6, .inl (fun _ => 0)))]) hP hD rfl
  refine lv_aload_n hx hb dX3_init_12 rfl (lv_at hl 0 rfl) ?_
  refine lv_bipush (v := 6) hx hb dX3_init_13 rfl ?_
  refine va_newa (atype := .int) (N' := 6) (a0 := (6, .inl (fun _ => 0))) hx hb (hg _ wt_49) rfl hK.1 hP hD hS hA (fun _ => rfl) (by decide) (by decide) (by decide) (Nat.le_of_ble_eq_true rfl) (Nat.le_of_ble_eq_true rfl) dX3_init_15 (fun q2 cA H hK9 hP hD hS => ?_)
  obtain rfl := uniA hK9 0 rfl
  obtain ⟨hP, hD⟩ := va_rls (ws' := [(h0, .inr (3, [.int 0, .ref q1, .null])), (q1, .inl (G 0, 6, .inl (fun _ => 0))), (q2, .inl (G 0, 6, .inl (fun _ => 0)))]) hP hD rfl
  refine W.widen (k := 2) (n := 12) (Nat.le_of_ble_eq_true rfl) (Nat.le_of_ble_eq_true rfl) ?_
  refine va_putF (D := (dC, dI)) (ci := 3) (v := .ref q2) (ty := (.array .int)) (C := RX3) (T := TX3) (N := 3) hx hb hg inG3 tyX3 tyX3_ok nmX3 hown hK.1 hP hD hS 0 rfl rfl 2 (Nat.le_of_ble_eq_true rfl) (hg _ wt_243) (fun _ h9 => h9) rfl hin rfl (by decide +kernel) rfl rfl (Nat.le_of_ble_eq_true rfl) dX3_init_17 (fun H locs hP hD hS => ?_)
  obtain ⟨hP, hD⟩ := va_rls (ws' := [(h0, .inr (3, [.int 0, .ref q1, .ref q2])), (q1, .inl (G 0, 6, .inl (fun _ => 0))), (q2, .inl (G 0, 6, .inl (fun _ => 0)))]) hP hD rfl
  have hP9 := hP
  have hD9 := hD
  refine W.widen (k := 2) (n := 12) (Nat.le_of_ble_eq_true rfl) (Nat.le_of_ble_eq_true rfl) ?_
  exact W.vret hx hb hr (fun t ht hW => ⟨⟨(fun k => match k with | 0 => q1 | 1 => q2 | _ => 0), rfl, trivial, ⟨by rw [ht]; exact hP9, hD9⟩⟩, hS.F ht⟩) hS.2.2 dX3_init_20

set_option maxHeartbeats 1000000 in
set_option maxRecDepth 100000 in
theorem c_X0_init (l : Launch) (dC : Nat → ClassId) (dI : Nat → Nat → Nat) (G : Nat → ClassId) (sz : Nat) (h0 : Nat)  : Met l yX0_init (Cond.code yX0_init cX0_init 1 none :: GT) ({ frames := 1, cells := 23, slots := 1491, locals := 24 } : Room) (PcW [.ref h0] dC dI G [(h0, .inr (0, [.long 0, .null, .null]))] sz) (va_Qv (fun (u : (Nat → Nat) × (Nat → Nat) × (Nat → Nat)) => match u with | (v, rw, rq) => True) (fun (u : (Nat → Nat) × (Nat → Nat) × (Nat → Nat)) (t : State) => match u with | (v, rw, rq) => va_P (dC, dI) vwCl [(h0, .inr (0, [.long 1, .ref (v 0), .ref (v 1)])), ((v 0), .inl (G 5, 11, .inr (.inr (.inr (.inr (fun ir => if ir < 11 then some (rw ir) else none)))))), ((v 1), .inl (G 4, 10, .inr (.inr (.inr (.inr (fun ir => if ir < 10 then some (rq ir) else none)))))), ((rw 0), .inl (G 1, 70, .inr (.inl (fun _ => 0)))), ((rw 1), .inl (G 1, 70, .inr (.inl (fun _ => 0)))), ((rw 2), .inl (G 1, 70, .inr (.inl (fun _ => 0)))), ((rw 3), .inl (G 1, 70, .inr (.inl (fun _ => 0)))), ((rw 4), .inl (G 1, 70, .inr (.inl (fun _ => 0)))), ((rw 5), .inl (G 1, 70, .inr (.inl (fun _ => 0)))), ((rw 6), .inl (G 1, 70, .inr (.inl (fun _ => 0)))), ((rw 7), .inl (G 1, 70, .inr (.inl (fun _ => 0)))), ((rw 8), .inl (G 1, 70, .inr (.inl (fun _ => 0)))), ((rw 9), .inl (G 1, 70, .inr (.inl (fun _ => 0)))), ((rw 10), .inl (G 1, 70, .inr (.inl (fun _ => 0)))), ((rq 0), .inl (G 0, 70, .inl (fun _ => 0))), ((rq 1), .inl (G 0, 70, .inl (fun _ => 0))), ((rq 2), .inl (G 0, 70, .inl (fun _ => 0))), ((rq 3), .inl (G 0, 70, .inl (fun _ => 0))), ((rq 4), .inl (G 0, 70, .inl (fun _ => 0))), ((rq 5), .inl (G 0, 70, .inl (fun _ => 0))), ((rq 6), .inl (G 0, 70, .inl (fun _ => 0))), ((rq 7), .inl (G 0, 70, .inl (fun _ => 0))), ((rq 8), .inl (G 0, 70, .inl (fun _ => 0))), ((rq 9), .inl (G 0, 70, .inl (fun _ => 0)))] t.heap ∧ va_D (va_A [(h0, .inr (0, [.long 0, .null, .null]))] sz) [(h0, .inr (0, [.long 1, .ref (v 0), .ref (v 1)])), ((v 0), .inl (G 5, 11, .inr (.inr (.inr (.inr (fun ir => if ir < 11 then some (rw ir) else none)))))), ((v 1), .inl (G 4, 10, .inr (.inr (.inr (.inr (fun ir => if ir < 10 then some (rq ir) else none)))))), ((rw 0), .inl (G 1, 70, .inr (.inl (fun _ => 0)))), ((rw 1), .inl (G 1, 70, .inr (.inl (fun _ => 0)))), ((rw 2), .inl (G 1, 70, .inr (.inl (fun _ => 0)))), ((rw 3), .inl (G 1, 70, .inr (.inl (fun _ => 0)))), ((rw 4), .inl (G 1, 70, .inr (.inl (fun _ => 0)))), ((rw 5), .inl (G 1, 70, .inr (.inl (fun _ => 0)))), ((rw 6), .inl (G 1, 70, .inr (.inl (fun _ => 0)))), ((rw 7), .inl (G 1, 70, .inr (.inl (fun _ => 0)))), ((rw 8), .inl (G 1, 70, .inr (.inl (fun _ => 0)))), ((rw 9), .inl (G 1, 70, .inr (.inl (fun _ => 0)))), ((rw 10), .inl (G 1, 70, .inr (.inl (fun _ => 0)))), ((rq 0), .inl (G 0, 70, .inl (fun _ => 0))), ((rq 1), .inl (G 0, 70, .inl (fun _ => 0))), ((rq 2), .inl (G 0, 70, .inl (fun _ => 0))), ((rq 3), .inl (G 0, 70, .inl (fun _ => 0))), ((rq 4), .inl (G 0, 70, .inl (fun _ => 0))), ((rq 5), .inl (G 0, 70, .inl (fun _ => 0))), ((rq 6), .inl (G 0, 70, .inl (fun _ => 0))), ((rq 7), .inl (G 0, 70, .inl (fun _ => 0))), ((rq 8), .inl (G 0, 70, .inl (fun _ => 0))), ((rq 9), .inl (G 0, 70, .inl (fun _ => 0)))]) (va_A [(h0, .inr (0, [.long 0, .null, .null]))] sz)) 23 1491 (va_A [(h0, .inr (0, [.long 0, .null, .null]))] sz) := by
  refine Met.ofW (cc := cX0_init) (maxL := 1) (ret := none) (by decide) rfl ?_
  intro p e s m args below meth c s₁ Bd hml hv
  obtain ⟨rfl, hsz, hP, hK, hD0⟩ := hv
  have hx := Bd.exec
  have hb := Bd.bytes
  have hr := Bd.returns
  have hg : ∀ w ∈ GT, w.before ([.ref h0] : List Value).toArray s = true := fun w h => atoms_spec (ws := Cond.code yX0_init cX0_init 1 none :: GT) Bd.pre w (List.mem_cons_of_mem _ h)
  have hown : s.vm.findClass RX0 = some m.cls := findClass_of_methodNamed Bd.named
  have hlocks := Bd.notSynchronized
  have hin : meth.name = "<init>" := (name_of_methodNamed Bd.named Bd.method).1
  subst hsz
  have hD := hD0.self (sz := s.heap.size)
  generalize hAe : va_A [(h0, .inr (0, [.long 0, .null, .null]))] s.heap.size = A at hD ⊢
  have hA : ∀ q : Nat, s.heap.size ≤ q → A q := fun q h => by rw [← hAe]; exact Or.inr h
  have hS : va_S A s.heap s.heap [] := va_S.rf
  have hl := lv_entry ([.ref h0]) (n := 1) (Nat.le_of_ble_eq_true rfl)
  rw [lg_entry_eq]
  generalize (lg_sl ([.ref h0]) ++ List.replicate (1 - (lg_sl ([.ref h0])).length) Slot.unset).toArray = ls at hl ⊢
  have hl : lv_has ls 1 [(0, .ref h0)] := hl
  refine lv_aload_n hx hb dX0_init_0 rfl (lv_at hl 0 rfl) ?_
  refine W.objInit hx hb hown (hg _ wt_175) (hg _ wt_26) (hg _ wt_27) rfl (by rw [hml]; exact hl.1) rfl dX0_init_1 (Nat.le_of_ble_eq_true rfl) (Nat.le_of_ble_eq_true rfl) ?_
  refine W.eq (g2 := F0 m 4 ls []) rfl ?_
  refine lv_aload_n hx hb dX0_init_4 rfl (lv_at hl 0 rfl) ?_
  refine lv_lconst (v := 1) hx hb dX0_init_5 (by decide) ?_
  refine va_put (D := (dC, dI)) (ci := 0) (v := .long 1) (ty := .long) (C := RX0) (T := TX0) (N := 3) hx hb hg inG0 tyX0 tyX0_ok nmX0 hown hK.1 hP hD hS 0 rfl rfl 0 (Nat.le_of_ble_eq_true rfl) (hg _ wt_180) (fun _ h9 => h9) rfl (by decide +kernel) rfl rfl (Nat.le_of_ble_eq_true rfl) dX0_init_6 (fun H locs hP hD hS => ?_)
  obtain ⟨hP, hD⟩ := va_rls (ws' := [(h0, .inr (0, [.long 1, .null, .null]))]) hP hD rfl
  refine lv_aload_n hx hb dX0_init_9 rfl (lv_at hl 0 rfl) ?_
  refine lv_bipush (v := 11) hx hb dX0_init_10 rfl ?_
  refine lv_bipush (v := 70) hx hb dX0_init_12 rfl ?_
  refine va_mnL (N' := 11) (K' := 70) (ty := .long) (cy := G 1) (z := (70, .inr (.inl (fun _ => 0)))) hx hb hown (hg _ wt_176) (by decide +kernel) hK.2.2.2.2 (hg _ wt_169) (hK.1.2 1 _ rfl).2 hK.1 hP hD hS hA (by decide) (by decide) (by decide) (by decide) (by decide) (by decide) (by decide) (by decide) (by decide) (Nat.le_of_ble_eq_true rfl) (Nat.le_of_ble_eq_true rfl) (fun c => innL c 70) dX0_init_14 (fun q1 rr2 cA H hK9 hP hD hS => ?_)
  obtain rfl := uniA hK9 5 rfl
  obtain ⟨hP, hD⟩ := va_rls (ws' := [(h0, .inr (0, [.long 1, .null, .null])), (q1, .inl (G 5, 11, .inr (.inr (.inr (.inr (fun ir => if ir < 11 then some (rr2 ir) else none)))))), ((rr2 0), .inl (G 1, 70, .inr (.inl (fun _ => 0)))), ((rr2 1), .inl (G 1, 70, .inr (.inl (fun _ => 0)))), ((rr2 2), .inl (G 1, 70, .inr (.inl (fun _ => 0)))), ((rr2 3), .inl (G 1, 70, .inr (.inl (fun _ => 0)))), ((rr2 4), .inl (G 1, 70, .inr (.inl (fun _ => 0)))), ((rr2 5), .inl (G 1, 70, .inr (.inl (fun _ => 0)))), ((rr2 6), .inl (G 1, 70, .inr (.inl (fun _ => 0)))), ((rr2 7), .inl (G 1, 70, .inr (.inl (fun _ => 0)))), ((rr2 8), .inl (G 1, 70, .inr (.inl (fun _ => 0)))), ((rr2 9), .inl (G 1, 70, .inr (.inl (fun _ => 0)))), ((rr2 10), .inl (G 1, 70, .inr (.inl (fun _ => 0))))]) hP hD rfl
  refine W.widen (k := 12) (n := 781) (Nat.le_of_ble_eq_true rfl) (Nat.le_of_ble_eq_true rfl) ?_
  refine va_putF (D := (dC, dI)) (ci := 0) (v := .ref q1) (ty := (.array (.array .long))) (C := RX0) (T := TX0) (N := 3) hx hb hg inG0 tyX0 tyX0_ok nmX0 hown hK.1 hP hD hS 0 rfl rfl 1 (Nat.le_of_ble_eq_true rfl) (hg _ wt_182) (fun _ h9 => h9) rfl hin rfl (by decide +kernel) rfl rfl (Nat.le_of_ble_eq_true rfl) dX0_init_18 (fun H locs hP hD hS => ?_)
  obtain ⟨hP, hD⟩ := va_rls (ws' := [(h0, .inr (0, [.long 1, .ref q1, .null])), (q1, .inl (G 5, 11, .inr (.inr (.inr (.inr (fun ir => if ir < 11 then some (rr2 ir) else none)))))), ((rr2 0), .inl (G 1, 70, .inr (.inl (fun _ => 0)))), ((rr2 1), .inl (G 1, 70, .inr (.inl (fun _ => 0)))), ((rr2 2), .inl (G 1, 70, .inr (.inl (fun _ => 0)))), ((rr2 3), .inl (G 1, 70, .inr (.inl (fun _ => 0)))), ((rr2 4), .inl (G 1, 70, .inr (.inl (fun _ => 0)))), ((rr2 5), .inl (G 1, 70, .inr (.inl (fun _ => 0)))), ((rr2 6), .inl (G 1, 70, .inr (.inl (fun _ => 0)))), ((rr2 7), .inl (G 1, 70, .inr (.inl (fun _ => 0)))), ((rr2 8), .inl (G 1, 70, .inr (.inl (fun _ => 0)))), ((rr2 9), .inl (G 1, 70, .inr (.inl (fun _ => 0)))), ((rr2 10), .inl (G 1, 70, .inr (.inl (fun _ => 0))))]) hP hD rfl
  refine lv_aload_n hx hb dX0_init_21 rfl (lv_at hl 0 rfl) ?_
  refine lv_bipush (v := 10) hx hb dX0_init_22 rfl ?_
  refine lv_bipush (v := 70) hx hb dX0_init_24 rfl ?_
  refine va_mnL (N' := 10) (K' := 70) (ty := .int) (cy := G 0) (z := (70, .inl (fun _ => 0))) hx hb hown (hg _ wt_178) (by decide +kernel) hK.2.2.2.1 (hg _ wt_49) (hK.1.2 0 _ rfl).2 hK.1 hP hD hS hA (by decide) (by decide) (by decide) (by decide) (by decide) (by decide) (by decide) (by decide) (by decide) (Nat.le_of_ble_eq_true rfl) (Nat.le_of_ble_eq_true rfl) (fun c => innI c 70) dX0_init_26 (fun q3 rr4 cA H hK9 hP hD hS => ?_)
  obtain rfl := uniA hK9 4 rfl
  obtain ⟨hP, hD⟩ := va_rls (ws' := [(h0, .inr (0, [.long 1, .ref q1, .null])), (q1, .inl (G 5, 11, .inr (.inr (.inr (.inr (fun ir => if ir < 11 then some (rr2 ir) else none)))))), ((rr2 0), .inl (G 1, 70, .inr (.inl (fun _ => 0)))), ((rr2 1), .inl (G 1, 70, .inr (.inl (fun _ => 0)))), ((rr2 2), .inl (G 1, 70, .inr (.inl (fun _ => 0)))), ((rr2 3), .inl (G 1, 70, .inr (.inl (fun _ => 0)))), ((rr2 4), .inl (G 1, 70, .inr (.inl (fun _ => 0)))), ((rr2 5), .inl (G 1, 70, .inr (.inl (fun _ => 0)))), ((rr2 6), .inl (G 1, 70, .inr (.inl (fun _ => 0)))), ((rr2 7), .inl (G 1, 70, .inr (.inl (fun _ => 0)))), ((rr2 8), .inl (G 1, 70, .inr (.inl (fun _ => 0)))), ((rr2 9), .inl (G 1, 70, .inr (.inl (fun _ => 0)))), ((rr2 10), .inl (G 1, 70, .inr (.inl (fun _ => 0)))), (q3, .inl (G 4, 10, .inr (.inr (.inr (.inr (fun ir => if ir < 10 then some (rr4 ir) else none)))))), ((rr4 0), .inl (G 0, 70, .inl (fun _ => 0))), ((rr4 1), .inl (G 0, 70, .inl (fun _ => 0))), ((rr4 2), .inl (G 0, 70, .inl (fun _ => 0))), ((rr4 3), .inl (G 0, 70, .inl (fun _ => 0))), ((rr4 4), .inl (G 0, 70, .inl (fun _ => 0))), ((rr4 5), .inl (G 0, 70, .inl (fun _ => 0))), ((rr4 6), .inl (G 0, 70, .inl (fun _ => 0))), ((rr4 7), .inl (G 0, 70, .inl (fun _ => 0))), ((rr4 8), .inl (G 0, 70, .inl (fun _ => 0))), ((rr4 9), .inl (G 0, 70, .inl (fun _ => 0)))]) hP hD rfl
  refine W.widen (k := 23) (n := 1491) (Nat.le_of_ble_eq_true rfl) (Nat.le_of_ble_eq_true rfl) ?_
  refine va_putF (D := (dC, dI)) (ci := 0) (v := .ref q3) (ty := (.array (.array .int))) (C := RX0) (T := TX0) (N := 3) hx hb hg inG0 tyX0 tyX0_ok nmX0 hown hK.1 hP hD hS 0 rfl rfl 2 (Nat.le_of_ble_eq_true rfl) (hg _ wt_183) (fun _ h9 => h9) rfl hin rfl (by decide +kernel) rfl rfl (Nat.le_of_ble_eq_true rfl) dX0_init_30 (fun H locs hP hD hS => ?_)
  obtain ⟨hP, hD⟩ := va_rls (ws' := [(h0, .inr (0, [.long 1, .ref q1, .ref q3])), (q1, .inl (G 5, 11, .inr (.inr (.inr (.inr (fun ir => if ir < 11 then some (rr2 ir) else none)))))), ((rr2 0), .inl (G 1, 70, .inr (.inl (fun _ => 0)))), ((rr2 1), .inl (G 1, 70, .inr (.inl (fun _ => 0)))), ((rr2 2), .inl (G 1, 70, .inr (.inl (fun _ => 0)))), ((rr2 3), .inl (G 1, 70, .inr (.inl (fun _ => 0)))), ((rr2 4), .inl (G 1, 70, .inr (.inl (fun _ => 0)))), ((rr2 5), .inl (G 1, 70, .inr (.inl (fun _ => 0)))), ((rr2 6), .inl (G 1, 70, .inr (.inl (fun _ => 0)))), ((rr2 7), .inl (G 1, 70, .inr (.inl (fun _ => 0)))), ((rr2 8), .inl (G 1, 70, .inr (.inl (fun _ => 0)))), ((rr2 9), .inl (G 1, 70, .inr (.inl (fun _ => 0)))), ((rr2 10), .inl (G 1, 70, .inr (.inl (fun _ => 0)))), (q3, .inl (G 4, 10, .inr (.inr (.inr (.inr (fun ir => if ir < 10 then some (rr4 ir) else none)))))), ((rr4 0), .inl (G 0, 70, .inl (fun _ => 0))), ((rr4 1), .inl (G 0, 70, .inl (fun _ => 0))), ((rr4 2), .inl (G 0, 70, .inl (fun _ => 0))), ((rr4 3), .inl (G 0, 70, .inl (fun _ => 0))), ((rr4 4), .inl (G 0, 70, .inl (fun _ => 0))), ((rr4 5), .inl (G 0, 70, .inl (fun _ => 0))), ((rr4 6), .inl (G 0, 70, .inl (fun _ => 0))), ((rr4 7), .inl (G 0, 70, .inl (fun _ => 0))), ((rr4 8), .inl (G 0, 70, .inl (fun _ => 0))), ((rr4 9), .inl (G 0, 70, .inl (fun _ => 0)))]) hP hD rfl
  obtain ⟨hP9, hD9⟩ := va_sub2 (ws' := [(h0, .inr (0, [.long 1, .ref q1, .ref q3])), (q1, .inl (G 5, 11, .inr (.inr (.inr (.inr (fun ir => if ir < 11 then some (rr2 ir) else none)))))), (q3, .inl (G 4, 10, .inr (.inr (.inr (.inr (fun ir => if ir < 10 then some (rr4 ir) else none)))))), ((rr2 0), .inl (G 1, 70, .inr (.inl (fun _ => 0)))), ((rr2 1), .inl (G 1, 70, .inr (.inl (fun _ => 0)))), ((rr2 2), .inl (G 1, 70, .inr (.inl (fun _ => 0)))), ((rr2 3), .inl (G 1, 70, .inr (.inl (fun _ => 0)))), ((rr2 4), .inl (G 1, 70, .inr (.inl (fun _ => 0)))), ((rr2 5), .inl (G 1, 70, .inr (.inl (fun _ => 0)))), ((rr2 6), .inl (G 1, 70, .inr (.inl (fun _ => 0)))), ((rr2 7), .inl (G 1, 70, .inr (.inl (fun _ => 0)))), ((rr2 8), .inl (G 1, 70, .inr (.inl (fun _ => 0)))), ((rr2 9), .inl (G 1, 70, .inr (.inl (fun _ => 0)))), ((rr2 10), .inl (G 1, 70, .inr (.inl (fun _ => 0)))), ((rr4 0), .inl (G 0, 70, .inl (fun _ => 0))), ((rr4 1), .inl (G 0, 70, .inl (fun _ => 0))), ((rr4 2), .inl (G 0, 70, .inl (fun _ => 0))), ((rr4 3), .inl (G 0, 70, .inl (fun _ => 0))), ((rr4 4), .inl (G 0, 70, .inl (fun _ => 0))), ((rr4 5), .inl (G 0, 70, .inl (fun _ => 0))), ((rr4 6), .inl (G 0, 70, .inl (fun _ => 0))), ((rr4 7), .inl (G 0, 70, .inl (fun _ => 0))), ((rr4 8), .inl (G 0, 70, .inl (fun _ => 0))), ((rr4 9), .inl (G 0, 70, .inl (fun _ => 0)))]) hP hD [0, 1, 13, 2, 3, 4, 5, 6, 7, 8, 9, 10, 11, 12, 14, 15, 16, 17, 18, 19, 20, 21, 22, 23] (by decide +kernel) rfl
  refine W.widen (k := 23) (n := 1491) (Nat.le_of_ble_eq_true rfl) (Nat.le_of_ble_eq_true rfl) ?_
  exact W.vret hx hb hr (fun t ht hW => ⟨⟨((fun k => match k with | 0 => q1 | 1 => q3 | _ => 0), rr2, rr4), rfl, trivial, ⟨by rw [ht]; exact hP9, hD9⟩⟩, hS.F ht⟩) hS.2.2 dX0_init_33

set_option maxHeartbeats 1000000 in
set_option maxRecDepth 100000 in
theorem c_X8_init (l : Launch) (dC : Nat → ClassId) (dI : Nat → Nat → Nat) (G : Nat → ClassId) (sz : Nat) (h0 : Nat)  : Met l yX8_init (Cond.code yX8_init cX8_init 1 none :: GT) ({ frames := 1, cells := 24, slots := 242, locals := 24 } : Room) (PcW [.ref h0] dC dI G [(h0, .inr (8, [.int 0, .null, .null]))] sz) (va_Qv (fun (u : (Nat → Nat) × (Nat → Nat) × (Nat → Nat)) => match u with | (v, ri, ro) => True) (fun (u : (Nat → Nat) × (Nat → Nat) × (Nat → Nat)) (t : State) => match u with | (v, ri, ro) => va_P (dC, dI) vwCl [(h0, .inr (8, [.int 0, .ref (v 0), .ref (v 1)])), ((v 0), .inl (G 4, 11, .inr (.inr (.inr (.inr (fun ir => if ir < 11 then some (ri ir) else none)))))), ((v 1), .inl (G 4, 11, .inr (.inr (.inr (.inr (fun ir => if ir < 11 then some (ro ir) else none)))))), ((ri 0), .inl (G 0, 10, .inl (fun _ => 0))), ((ri 1), .inl (G 0, 10, .inl (fun _ => 0))), ((ri 2), .inl (G 0, 10, .inl (fun _ => 0))), ((ri 3), .inl (G 0, 10, .inl (fun _ => 0))), ((ri 4), .inl (G 0, 10, .inl (fun _ => 0))), ((ri 5), .inl (G 0, 10, .inl (fun _ => 0))), ((ri 6), .inl (G 0, 10, .inl (fun _ => 0))), ((ri 7), .inl (G 0, 10, .inl (fun _ => 0))), ((ri 8), .inl (G 0, 10, .inl (fun _ => 0))), ((ri 9), .inl (G 0, 10, .inl (fun _ => 0))), ((ri 10), .inl (G 0, 10, .inl (fun _ => 0))), ((ro 0), .inl (G 0, 10, .inl (fun _ => 0))), ((ro 1), .inl (G 0, 10, .inl (fun _ => 0))), ((ro 2), .inl (G 0, 10, .inl (fun _ => 0))), ((ro 3), .inl (G 0, 10, .inl (fun _ => 0))), ((ro 4), .inl (G 0, 10, .inl (fun _ => 0))), ((ro 5), .inl (G 0, 10, .inl (fun _ => 0))), ((ro 6), .inl (G 0, 10, .inl (fun _ => 0))), ((ro 7), .inl (G 0, 10, .inl (fun _ => 0))), ((ro 8), .inl (G 0, 10, .inl (fun _ => 0))), ((ro 9), .inl (G 0, 10, .inl (fun _ => 0))), ((ro 10), .inl (G 0, 10, .inl (fun _ => 0)))] t.heap ∧ va_D (va_A [(h0, .inr (8, [.int 0, .null, .null]))] sz) [(h0, .inr (8, [.int 0, .ref (v 0), .ref (v 1)])), ((v 0), .inl (G 4, 11, .inr (.inr (.inr (.inr (fun ir => if ir < 11 then some (ri ir) else none)))))), ((v 1), .inl (G 4, 11, .inr (.inr (.inr (.inr (fun ir => if ir < 11 then some (ro ir) else none)))))), ((ri 0), .inl (G 0, 10, .inl (fun _ => 0))), ((ri 1), .inl (G 0, 10, .inl (fun _ => 0))), ((ri 2), .inl (G 0, 10, .inl (fun _ => 0))), ((ri 3), .inl (G 0, 10, .inl (fun _ => 0))), ((ri 4), .inl (G 0, 10, .inl (fun _ => 0))), ((ri 5), .inl (G 0, 10, .inl (fun _ => 0))), ((ri 6), .inl (G 0, 10, .inl (fun _ => 0))), ((ri 7), .inl (G 0, 10, .inl (fun _ => 0))), ((ri 8), .inl (G 0, 10, .inl (fun _ => 0))), ((ri 9), .inl (G 0, 10, .inl (fun _ => 0))), ((ri 10), .inl (G 0, 10, .inl (fun _ => 0))), ((ro 0), .inl (G 0, 10, .inl (fun _ => 0))), ((ro 1), .inl (G 0, 10, .inl (fun _ => 0))), ((ro 2), .inl (G 0, 10, .inl (fun _ => 0))), ((ro 3), .inl (G 0, 10, .inl (fun _ => 0))), ((ro 4), .inl (G 0, 10, .inl (fun _ => 0))), ((ro 5), .inl (G 0, 10, .inl (fun _ => 0))), ((ro 6), .inl (G 0, 10, .inl (fun _ => 0))), ((ro 7), .inl (G 0, 10, .inl (fun _ => 0))), ((ro 8), .inl (G 0, 10, .inl (fun _ => 0))), ((ro 9), .inl (G 0, 10, .inl (fun _ => 0))), ((ro 10), .inl (G 0, 10, .inl (fun _ => 0)))]) (va_A [(h0, .inr (8, [.int 0, .null, .null]))] sz)) 24 242 (va_A [(h0, .inr (8, [.int 0, .null, .null]))] sz) := by
  refine Met.ofW (cc := cX8_init) (maxL := 1) (ret := none) (by decide) rfl ?_
  intro p e s m args below meth c s₁ Bd hml hv
  obtain ⟨rfl, hsz, hP, hK, hD0⟩ := hv
  have hx := Bd.exec
  have hb := Bd.bytes
  have hr := Bd.returns
  have hg : ∀ w ∈ GT, w.before ([.ref h0] : List Value).toArray s = true := fun w h => atoms_spec (ws := Cond.code yX8_init cX8_init 1 none :: GT) Bd.pre w (List.mem_cons_of_mem _ h)
  have hown : s.vm.findClass RX8 = some m.cls := findClass_of_methodNamed Bd.named
  have hlocks := Bd.notSynchronized
  have hin : meth.name = "<init>" := (name_of_methodNamed Bd.named Bd.method).1
  subst hsz
  have hD := hD0.self (sz := s.heap.size)
  generalize hAe : va_A [(h0, .inr (8, [.int 0, .null, .null]))] s.heap.size = A at hD ⊢
  have hA : ∀ q : Nat, s.heap.size ≤ q → A q := fun q h => by rw [← hAe]; exact Or.inr h
  have hS : va_S A s.heap s.heap [] := va_S.rf
  have hl := lv_entry ([.ref h0]) (n := 1) (Nat.le_of_ble_eq_true rfl)
  rw [lg_entry_eq]
  generalize (lg_sl ([.ref h0]) ++ List.replicate (1 - (lg_sl ([.ref h0])).length) Slot.unset).toArray = ls at hl ⊢
  have hl : lv_has ls 1 [(0, .ref h0)] := hl
  refine lv_aload_n hx hb dX8_init_0 rfl (lv_at hl 0 rfl) ?_
  refine W.objInit hx hb hown (hg _ wt_256) (hg _ wt_26) (hg _ wt_27) rfl (by rw [hml]; exact hl.1) rfl dX8_init_1 (Nat.le_of_ble_eq_true rfl) (Nat.le_of_ble_eq_true rfl) ?_
  refine W.eq (g2 := F0 m 4 ls []) rfl ?_
  refine lv_aload_n hx hb dX8_init_4 rfl (lv_at hl 0 rfl) ?_
  refine lv_bipush (v := 11) hx hb dX8_init_5 rfl ?_
  refine lv_bipush (v := 10) hx hb dX8_init_7 rfl ?_
  refine va_mnL (N' := 11) (K' := 10) (ty := .int) (cy := G 0) (z := (10, .inl (fun _ => 0))) hx hb hown (hg _ wt_257) (by decide +kernel) hK.2.2.2.1 (hg _ wt_49) (hK.1.2 0 _ rfl).2 hK.1 hP hD hS hA (by decide) (by decide) (by decide) (by decide) (by decide) (by decide) (by decide) (by decide) (by decide) (Nat.le_of_ble_eq_true rfl) (Nat.le_of_ble_eq_true rfl) (fun c => innI c 10) dX8_init_9 (fun q1 rr2 cA H hK9 hP hD hS => ?_)
  obtain rfl := uniA hK9 4 rfl
  obtain ⟨hP, hD⟩ := va_rls (ws' := [(h0, .inr (8, [.int 0, .null, .null])), (q1, .inl (G 4, 11, .inr (.inr (.inr (.inr (fun ir => if ir < 11 then some (rr2 ir) else none)))))), ((rr2 0), .inl (G 0, 10, .inl (fun _ => 0))), ((rr2 1), .inl (G 0, 10, .inl (fun _ => 0))), ((rr2 2), .inl (G 0, 10, .inl (fun _ => 0))), ((rr2 3), .inl (G 0, 10, .inl (fun _ => 0))), ((rr2 4), .inl (G 0, 10, .inl (fun _ => 0))), ((rr2 5), .inl (G 0, 10, .inl (fun _ => 0))), ((rr2 6), .inl (G 0, 10, .inl (fun _ => 0))), ((rr2 7), .inl (G 0, 10, .inl (fun _ => 0))), ((rr2 8), .inl (G 0, 10, .inl (fun _ => 0))), ((rr2 9), .inl (G 0, 10, .inl (fun _ => 0))), ((rr2 10), .inl (G 0, 10, .inl (fun _ => 0)))]) hP hD rfl
  refine W.widen (k := 12) (n := 121) (Nat.le_of_ble_eq_true rfl) (Nat.le_of_ble_eq_true rfl) ?_
  refine va_putF (D := (dC, dI)) (ci := 8) (v := .ref q1) (ty := (.array (.array .int))) (C := RX8) (T := TX8) (N := 3) hx hb hg inG8 tyX8 tyX8_ok nmX8 hown hK.1 hP hD hS 0 rfl rfl 1 (Nat.le_of_ble_eq_true rfl) (hg _ wt_260) (fun _ h9 => h9) rfl hin rfl (by decide +kernel) rfl rfl (Nat.le_of_ble_eq_true rfl) dX8_init_13 (fun H locs hP hD hS => ?_)
  obtain ⟨hP, hD⟩ := va_rls (ws' := [(h0, .inr (8, [.int 0, .ref q1, .null])), (q1, .inl (G 4, 11, .inr (.inr (.inr (.inr (fun ir => if ir < 11 then some (rr2 ir) else none)))))), ((rr2 0), .inl (G 0, 10, .inl (fun _ => 0))), ((rr2 1), .inl (G 0, 10, .inl (fun _ => 0))), ((rr2 2), .inl (G 0, 10, .inl (fun _ => 0))), ((rr2 3), .inl (G 0, 10, .inl (fun _ => 0))), ((rr2 4), .inl (G 0, 10, .inl (fun _ => 0))), ((rr2 5), .inl (G 0, 10, .inl (fun _ => 0))), ((rr2 6), .inl (G 0, 10, .inl (fun _ => 0))), ((rr2 7), .inl (G 0, 10, .inl (fun _ => 0))), ((rr2 8), .inl (G 0, 10, .inl (fun _ => 0))), ((rr2 9), .inl (G 0, 10, .inl (fun _ => 0))), ((rr2 10), .inl (G 0, 10, .inl (fun _ => 0)))]) hP hD rfl
  refine lv_aload_n hx hb dX8_init_16 rfl (lv_at hl 0 rfl) ?_
  refine lv_bipush (v := 11) hx hb dX8_init_17 rfl ?_
  refine lv_bipush (v := 10) hx hb dX8_init_19 rfl ?_
  refine va_mnL (N' := 11) (K' := 10) (ty := .int) (cy := G 0) (z := (10, .inl (fun _ => 0))) hx hb hown (hg _ wt_257) (by decide +kernel) hK.2.2.2.1 (hg _ wt_49) (hK.1.2 0 _ rfl).2 hK.1 hP hD hS hA (by decide) (by decide) (by decide) (by decide) (by decide) (by decide) (by decide) (by decide) (by decide) (Nat.le_of_ble_eq_true rfl) (Nat.le_of_ble_eq_true rfl) (fun c => innI c 10) dX8_init_21 (fun q3 rr4 cA H hK9 hP hD hS => ?_)
  obtain rfl := uniA hK9 4 rfl
  obtain ⟨hP, hD⟩ := va_rls (ws' := [(h0, .inr (8, [.int 0, .ref q1, .null])), (q1, .inl (G 4, 11, .inr (.inr (.inr (.inr (fun ir => if ir < 11 then some (rr2 ir) else none)))))), ((rr2 0), .inl (G 0, 10, .inl (fun _ => 0))), ((rr2 1), .inl (G 0, 10, .inl (fun _ => 0))), ((rr2 2), .inl (G 0, 10, .inl (fun _ => 0))), ((rr2 3), .inl (G 0, 10, .inl (fun _ => 0))), ((rr2 4), .inl (G 0, 10, .inl (fun _ => 0))), ((rr2 5), .inl (G 0, 10, .inl (fun _ => 0))), ((rr2 6), .inl (G 0, 10, .inl (fun _ => 0))), ((rr2 7), .inl (G 0, 10, .inl (fun _ => 0))), ((rr2 8), .inl (G 0, 10, .inl (fun _ => 0))), ((rr2 9), .inl (G 0, 10, .inl (fun _ => 0))), ((rr2 10), .inl (G 0, 10, .inl (fun _ => 0))), (q3, .inl (G 4, 11, .inr (.inr (.inr (.inr (fun ir => if ir < 11 then some (rr4 ir) else none)))))), ((rr4 0), .inl (G 0, 10, .inl (fun _ => 0))), ((rr4 1), .inl (G 0, 10, .inl (fun _ => 0))), ((rr4 2), .inl (G 0, 10, .inl (fun _ => 0))), ((rr4 3), .inl (G 0, 10, .inl (fun _ => 0))), ((rr4 4), .inl (G 0, 10, .inl (fun _ => 0))), ((rr4 5), .inl (G 0, 10, .inl (fun _ => 0))), ((rr4 6), .inl (G 0, 10, .inl (fun _ => 0))), ((rr4 7), .inl (G 0, 10, .inl (fun _ => 0))), ((rr4 8), .inl (G 0, 10, .inl (fun _ => 0))), ((rr4 9), .inl (G 0, 10, .inl (fun _ => 0))), ((rr4 10), .inl (G 0, 10, .inl (fun _ => 0)))]) hP hD rfl
  refine W.widen (k := 24) (n := 242) (Nat.le_of_ble_eq_true rfl) (Nat.le_of_ble_eq_true rfl) ?_
  refine va_putF (D := (dC, dI)) (ci := 8) (v := .ref q3) (ty := (.array (.array .int))) (C := RX8) (T := TX8) (N := 3) hx hb hg inG8 tyX8 tyX8_ok nmX8 hown hK.1 hP hD hS 0 rfl rfl 2 (Nat.le_of_ble_eq_true rfl) (hg _ wt_261) (fun _ h9 => h9) rfl hin rfl (by decide +kernel) rfl rfl (Nat.le_of_ble_eq_true rfl) dX8_init_25 (fun H locs hP hD hS => ?_)
  obtain ⟨hP, hD⟩ := va_rls (ws' := [(h0, .inr (8, [.int 0, .ref q1, .ref q3])), (q1, .inl (G 4, 11, .inr (.inr (.inr (.inr (fun ir => if ir < 11 then some (rr2 ir) else none)))))), ((rr2 0), .inl (G 0, 10, .inl (fun _ => 0))), ((rr2 1), .inl (G 0, 10, .inl (fun _ => 0))), ((rr2 2), .inl (G 0, 10, .inl (fun _ => 0))), ((rr2 3), .inl (G 0, 10, .inl (fun _ => 0))), ((rr2 4), .inl (G 0, 10, .inl (fun _ => 0))), ((rr2 5), .inl (G 0, 10, .inl (fun _ => 0))), ((rr2 6), .inl (G 0, 10, .inl (fun _ => 0))), ((rr2 7), .inl (G 0, 10, .inl (fun _ => 0))), ((rr2 8), .inl (G 0, 10, .inl (fun _ => 0))), ((rr2 9), .inl (G 0, 10, .inl (fun _ => 0))), ((rr2 10), .inl (G 0, 10, .inl (fun _ => 0))), (q3, .inl (G 4, 11, .inr (.inr (.inr (.inr (fun ir => if ir < 11 then some (rr4 ir) else none)))))), ((rr4 0), .inl (G 0, 10, .inl (fun _ => 0))), ((rr4 1), .inl (G 0, 10, .inl (fun _ => 0))), ((rr4 2), .inl (G 0, 10, .inl (fun _ => 0))), ((rr4 3), .inl (G 0, 10, .inl (fun _ => 0))), ((rr4 4), .inl (G 0, 10, .inl (fun _ => 0))), ((rr4 5), .inl (G 0, 10, .inl (fun _ => 0))), ((rr4 6), .inl (G 0, 10, .inl (fun _ => 0))), ((rr4 7), .inl (G 0, 10, .inl (fun _ => 0))), ((rr4 8), .inl (G 0, 10, .inl (fun _ => 0))), ((rr4 9), .inl (G 0, 10, .inl (fun _ => 0))), ((rr4 10), .inl (G 0, 10, .inl (fun _ => 0)))]) hP hD rfl
  obtain ⟨hP9, hD9⟩ := va_sub2 (ws' := [(h0, .inr (8, [.int 0, .ref q1, .ref q3])), (q1, .inl (G 4, 11, .inr (.inr (.inr (.inr (fun ir => if ir < 11 then some (rr2 ir) else none)))))), (q3, .inl (G 4, 11, .inr (.inr (.inr (.inr (fun ir => if ir < 11 then some (rr4 ir) else none)))))), ((rr2 0), .inl (G 0, 10, .inl (fun _ => 0))), ((rr2 1), .inl (G 0, 10, .inl (fun _ => 0))), ((rr2 2), .inl (G 0, 10, .inl (fun _ => 0))), ((rr2 3), .inl (G 0, 10, .inl (fun _ => 0))), ((rr2 4), .inl (G 0, 10, .inl (fun _ => 0))), ((rr2 5), .inl (G 0, 10, .inl (fun _ => 0))), ((rr2 6), .inl (G 0, 10, .inl (fun _ => 0))), ((rr2 7), .inl (G 0, 10, .inl (fun _ => 0))), ((rr2 8), .inl (G 0, 10, .inl (fun _ => 0))), ((rr2 9), .inl (G 0, 10, .inl (fun _ => 0))), ((rr2 10), .inl (G 0, 10, .inl (fun _ => 0))), ((rr4 0), .inl (G 0, 10, .inl (fun _ => 0))), ((rr4 1), .inl (G 0, 10, .inl (fun _ => 0))), ((rr4 2), .inl (G 0, 10, .inl (fun _ => 0))), ((rr4 3), .inl (G 0, 10, .inl (fun _ => 0))), ((rr4 4), .inl (G 0, 10, .inl (fun _ => 0))), ((rr4 5), .inl (G 0, 10, .inl (fun _ => 0))), ((rr4 6), .inl (G 0, 10, .inl (fun _ => 0))), ((rr4 7), .inl (G 0, 10, .inl (fun _ => 0))), ((rr4 8), .inl (G 0, 10, .inl (fun _ => 0))), ((rr4 9), .inl (G 0, 10, .inl (fun _ => 0))), ((rr4 10), .inl (G 0, 10, .inl (fun _ => 0)))]) hP hD [0, 1, 13, 2, 3, 4, 5, 6, 7, 8, 9, 10, 11, 12, 14, 15, 16, 17, 18, 19, 20, 21, 22, 23, 24] (by decide +kernel) rfl
  refine W.widen (k := 24) (n := 242) (Nat.le_of_ble_eq_true rfl) (Nat.le_of_ble_eq_true rfl) ?_
  exact W.vret hx hb hr (fun t ht hW => ⟨⟨((fun k => match k with | 0 => q1 | 1 => q3 | _ => 0), rr2, rr4), rfl, trivial, ⟨by rw [ht]; exact hP9, hD9⟩⟩, hS.F ht⟩) hS.2.2 dX8_init_28

set_option maxHeartbeats 1000000 in
set_option maxRecDepth 100000 in
theorem c_X6_init (l : Launch) (dC : Nat → ClassId) (dI : Nat → Nat → Nat) (G : Nat → ClassId) (sz : Nat) (h0 : Nat)  : Met l yX6_init (Cond.code yX6_init cX6_init 1 none :: GT) ({ frames := 1, cells := 9, slots := 212, locals := 24 } : Room) (PcW [.ref h0] dC dI G [(h0, .inr (6, [.null, .null, .null, .int 0, .int 0, .null, .null]))] sz) (va_Qv (fun (u : (Nat → Nat) × (Nat → Nat)) => match u with | (v, rc) => True) (fun (u : (Nat → Nat) × (Nat → Nat)) (t : State) => match u with | (v, rc) => va_P (dC, dI) vwCl [(h0, .inr (6, [.ref (v 0), .ref (v 1), .ref (v 2), .int 0, .int 0, .ref (v 3), .ref (v 4)])), ((v 0), .inl (G 0, 4, .inl (upd (upd (upd (upd (fun _ => 0) 0 (-1)) 1 (-1)) 2 (-1)) 3 (-1)))), ((v 1), .inl (G 0, 4, .inl (fun _ => 0))), ((v 2), .inl (G 4, 4, .inr (.inr (.inr (.inr (fun ir => if ir < 4 then some (rc ir) else none)))))), ((v 3), .inl (G 0, 20, .inl (fun _ => 0))), ((v 4), .inl (G 0, 20, .inl (fun _ => 0))), ((rc 0), .inl (G 0, 40, .inl (fun _ => 0))), ((rc 1), .inl (G 0, 40, .inl (fun _ => 0))), ((rc 2), .inl (G 0, 40, .inl (fun _ => 0))), ((rc 3), .inl (G 0, 40, .inl (fun _ => 0)))] t.heap ∧ va_D (va_A [(h0, .inr (6, [.null, .null, .null, .int 0, .int 0, .null, .null]))] sz) [(h0, .inr (6, [.ref (v 0), .ref (v 1), .ref (v 2), .int 0, .int 0, .ref (v 3), .ref (v 4)])), ((v 0), .inl (G 0, 4, .inl (upd (upd (upd (upd (fun _ => 0) 0 (-1)) 1 (-1)) 2 (-1)) 3 (-1)))), ((v 1), .inl (G 0, 4, .inl (fun _ => 0))), ((v 2), .inl (G 4, 4, .inr (.inr (.inr (.inr (fun ir => if ir < 4 then some (rc ir) else none)))))), ((v 3), .inl (G 0, 20, .inl (fun _ => 0))), ((v 4), .inl (G 0, 20, .inl (fun _ => 0))), ((rc 0), .inl (G 0, 40, .inl (fun _ => 0))), ((rc 1), .inl (G 0, 40, .inl (fun _ => 0))), ((rc 2), .inl (G 0, 40, .inl (fun _ => 0))), ((rc 3), .inl (G 0, 40, .inl (fun _ => 0)))]) (va_A [(h0, .inr (6, [.null, .null, .null, .int 0, .int 0, .null, .null]))] sz)) 9 212 (va_A [(h0, .inr (6, [.null, .null, .null, .int 0, .int 0, .null, .null]))] sz) := by
  refine Met.ofW (cc := cX6_init) (maxL := 1) (ret := none) (by decide) rfl ?_
  intro p e s m args below meth c s₁ Bd hml hv
  obtain ⟨rfl, hsz, hP, hK, hD0⟩ := hv
  have hx := Bd.exec
  have hb := Bd.bytes
  have hr := Bd.returns
  have hg : ∀ w ∈ GT, w.before ([.ref h0] : List Value).toArray s = true := fun w h => atoms_spec (ws := Cond.code yX6_init cX6_init 1 none :: GT) Bd.pre w (List.mem_cons_of_mem _ h)
  have hown : s.vm.findClass RX6 = some m.cls := findClass_of_methodNamed Bd.named
  have hlocks := Bd.notSynchronized
  have hin : meth.name = "<init>" := (name_of_methodNamed Bd.named Bd.method).1
  subst hsz
  have hD := hD0.self (sz := s.heap.size)
  generalize hAe : va_A [(h0, .inr (6, [.null, .null, .null, .int 0, .int 0, .null, .null]))] s.heap.size = A at hD ⊢
  have hA : ∀ q : Nat, s.heap.size ≤ q → A q := fun q h => by rw [← hAe]; exact Or.inr h
  have hS : va_S A s.heap s.heap [] := va_S.rf
  have hl := lv_entry ([.ref h0]) (n := 1) (Nat.le_of_ble_eq_true rfl)
  rw [lg_entry_eq]
  generalize (lg_sl ([.ref h0]) ++ List.replicate (1 - (lg_sl ([.ref h0])).length) Slot.unset).toArray = ls at hl ⊢
  have hl : lv_has ls 1 [(0, .ref h0)] := hl
  refine lv_aload_n hx hb dX6_init_0 rfl (lv_at hl 0 rfl) ?_
  refine W.objInit hx hb hown (hg _ wt_274) (hg _ wt_26) (hg _ wt_27) rfl (by rw [hml]; exact hl.1) rfl dX6_init_1 (Nat.le_of_ble_eq_true rfl) (Nat.le_of_ble_eq_true rfl) ?_
  refine W.eq (g2 := F0 m 4 ls []) rfl ?_
  refine lv_aload_n hx hb dX6_init_4 rfl (lv_at hl 0 rfl) ?_
  refine lv_iconst (v := 4) hx hb dX6_init_5 rfl ?_
  refine va_newa (atype := .int) (N' := 4) (a0 := (4, .inl (fun _ => 0))) hx hb (hg _ wt_49) rfl hK.1 hP hD hS hA (fun _ => rfl) (by decide) (by decide) (by decide) (Nat.le_of_ble_eq_true rfl) (Nat.le_of_ble_eq_true rfl) dX6_init_6 (fun q1 cA H hK9 hP hD hS => ?_)
  obtain rfl := uniA hK9 0 rfl
  obtain ⟨hP, hD⟩ := va_rls (ws' := [(h0, .inr (6, [.null, .null, .null, .int 0, .int 0, .null, .null])), (q1, .inl (G 0, 4, .inl (fun _ => 0)))]) hP hD rfl
  refine W.widen (k := 1) (n := 4) (Nat.le_of_ble_eq_true rfl) (Nat.le_of_ble_eq_true rfl) ?_
  refine lv_dup hx hb dX6_init_8 rfl ?_
  refine lv_iconst (v := 0) hx hb dX6_init_9 rfl ?_
  refine lv_iconst (v := (-1)) hx hb dX6_init_10 rfl ?_
  refine va_iast hx hb hK.1 hP hD hS 1 0 rfl rfl (vp_in_iff.mpr ⟨by decide, by decide⟩) dX6_init_11 (fun H locs hP hD hS => ?_)
  obtain ⟨hP, hD⟩ := va_rls (ws' := [(h0, .inr (6, [.null, .null, .null, .int 0, .int 0, .null, .null])), (q1, .inl (G 0, 4, .inl (upd (fun _ => 0) 0 (-1))))]) hP hD rfl
  refine lv_dup hx hb dX6_init_12 rfl ?_
  refine lv_iconst (v := 1) hx hb dX6_init_13 rfl ?_
  refine lv_iconst (v := (-1)) hx hb dX6_init_14 rfl ?_
  refine va_iast hx hb hK.1 hP hD hS 1 0 rfl rfl (vp_in_iff.mpr ⟨by decide, by decide⟩) dX6_init_15 (fun H locs hP hD hS => ?_)
  obtain ⟨hP, hD⟩ := va_rls (ws' := [(h0, .inr (6, [.null, .null, .null, .int 0, .int 0, .null, .null])), (q1, .inl (G 0, 4, .inl (upd (upd (fun _ => 0) 0 (-1)) 1 (-1))))]) hP hD rfl
  refine lv_dup hx hb dX6_init_16 rfl ?_
  refine lv_iconst (v := 2) hx hb dX6_init_17 rfl ?_
  refine lv_iconst (v := (-1)) hx hb dX6_init_18 rfl ?_
  refine va_iast hx hb hK.1 hP hD hS 1 0 rfl rfl (vp_in_iff.mpr ⟨by decide, by decide⟩) dX6_init_19 (fun H locs hP hD hS => ?_)
  obtain ⟨hP, hD⟩ := va_rls (ws' := [(h0, .inr (6, [.null, .null, .null, .int 0, .int 0, .null, .null])), (q1, .inl (G 0, 4, .inl (upd (upd (upd (fun _ => 0) 0 (-1)) 1 (-1)) 2 (-1))))]) hP hD rfl
  refine lv_dup hx hb dX6_init_20 rfl ?_
  refine lv_iconst (v := 3) hx hb dX6_init_21 rfl ?_
  refine lv_iconst (v := (-1)) hx hb dX6_init_22 rfl ?_
  refine va_iast hx hb hK.1 hP hD hS 1 0 rfl rfl (vp_in_iff.mpr ⟨by decide, by decide⟩) dX6_init_23 (fun H locs hP hD hS => ?_)
  obtain ⟨hP, hD⟩ := va_rls (ws' := [(h0, .inr (6, [.null, .null, .null, .int 0, .int 0, .null, .null])), (q1, .inl (G 0, 4, .inl (upd (upd (upd (upd (fun _ => 0) 0 (-1)) 1 (-1)) 2 (-1)) 3 (-1))))]) hP hD rfl
  refine va_putF (D := (dC, dI)) (ci := 6) (v := .ref q1) (ty := (.array .int)) (C := RX6) (T := TX6) (N := 7) hx hb hg inG6 tyX6 tyX6_ok nmX6 hown hK.1 hP hD hS 0 rfl rfl 0 (Nat.le_of_ble_eq_true rfl) (hg _ wt_276) (fun _ h9 => h9) rfl hin rfl (by decide +kernel) rfl rfl (Nat.le_of_ble_eq_true rfl) dX6_init_24 (fun H locs hP hD hS => ?_)
  obtain ⟨hP, hD⟩ := va_rls (ws' := [(h0, .inr (6, [.ref q1, .null, .null, .int 0, .int 0, .null, .null])), (q1, .inl (G 0, 4, .inl (upd (upd (upd (upd (fun _ => 0) 0 (-1)) 1 (-1)) 2 (-1)) 3 (-1))))]) hP hD rfl
  refine lv_aload_n hx hb dX6_init_27 rfl (lv_at hl 0 rfl) ?_
  refine lv_iconst (v := 4) hx hb dX6_init_28 rfl ?_
  refine va_newa (atype := .int) (N' := 4) (a0 := (4, .inl (fun _ => 0))) hx hb (hg _ wt_49) rfl hK.1 hP hD hS hA (fun _ => rfl) (by decide) (by decide) (by decide) (Nat.le_of_ble_eq_true rfl) (Nat.le_of_ble_eq_true rfl) dX6_init_29 (fun q2 cA H hK9 hP hD hS => ?_)
  obtain rfl := uniA hK9 0 rfl
  obtain ⟨hP, hD⟩ := va_rls (ws' := [(h0, .inr (6, [.ref q1, .null, .null, .int 0, .int 0, .null, .null])), (q1, .inl (G 0, 4, .inl (upd (upd (upd (upd (fun _ => 0) 0 (-1)) 1 (-1)) 2 (-1)) 3 (-1)))), (q2, .inl (G 0, 4, .inl (fun _ => 0)))]) hP hD rfl
  refine W.widen (k := 2) (n := 8) (Nat.le_of_ble_eq_true rfl) (Nat.le_of_ble_eq_true rfl) ?_
  refine va_putF (D := (dC, dI)) (ci := 6) (v := .ref q2) (ty := (.array .int)) (C := RX6) (T := TX6) (N := 7) hx hb hg inG6 tyX6 tyX6_ok nmX6 hown hK.1 hP hD hS 0 rfl rfl 1 (Nat.le_of_ble_eq_true rfl) (hg _ wt_277) (fun _ h9 => h9) rfl hin rfl (by decide +kernel) rfl rfl (Nat.le_of_ble_eq_true rfl) dX6_init_31 (fun H locs hP hD hS => ?_)
  obtain ⟨hP, hD⟩ := va_rls (ws' := [(h0, .inr (6, [.ref q1, .ref q2, .null, .int 0, .int 0, .null, .null])), (q1, .inl (G 0, 4, .inl (upd (upd (upd (upd (fun _ => 0) 0 (-1)) 1 (-1)) 2 (-1)) 3 (-1)))), (q2, .inl (G 0, 4, .inl (fun _ => 0)))]) hP hD rfl
  refine lv_aload_n hx hb dX6_init_34 rfl (lv_at hl 0 rfl) ?_
  refine lv_iconst (v := 4) hx hb dX6_init_35 rfl ?_
  refine lv_bipush (v := 40) hx hb dX6_init_36 rfl ?_
  refine va_mnL (N' := 4) (K' := 40) (ty := .int) (cy := G 0) (z := (40, .inl (fun _ => 0))) hx hb hown (hg _ wt_275) (by decide +kernel) hK.2.2.2.1 (hg _ wt_49) (hK.1.2 0 _ rfl).2 hK.1 hP hD hS hA (by decide) (by decide) (by decide) (by decide) (by decide) (by decide) (by decide) (by decide) (by decide) (Nat.le_of_ble_eq_true rfl) (Nat.le_of_ble_eq_true rfl) (fun c => innI c 40) dX6_init_38 (fun q3 rr4 cA H hK9 hP hD hS => ?_)
  obtain rfl := uniA hK9 4 rfl
  obtain ⟨hP, hD⟩ := va_rls (ws' := [(h0, .inr (6, [.ref q1, .ref q2, .null, .int 0, .int 0, .null, .null])), (q1, .inl (G 0, 4, .inl (upd (upd (upd (upd (fun _ => 0) 0 (-1)) 1 (-1)) 2 (-1)) 3 (-1)))), (q2, .inl (G 0, 4, .inl (fun _ => 0))), (q3, .inl (G 4, 4, .inr (.inr (.inr (.inr (fun ir => if ir < 4 then some (rr4 ir) else none)))))), ((rr4 0), .inl (G 0, 40, .inl (fun _ => 0))), ((rr4 1), .inl (G 0, 40, .inl (fun _ => 0))), ((rr4 2), .inl (G 0, 40, .inl (fun _ => 0))), ((rr4 3), .inl (G 0, 40, .inl (fun _ => 0)))]) hP hD rfl
  refine W.widen (k := 7) (n := 172) (Nat.le_of_ble_eq_true rfl) (Nat.le_of_ble_eq_true rfl) ?_
  refine va_putF (D := (dC, dI)) (ci := 6) (v := .ref q3) (ty := (.array (.array .int))) (C := RX6) (T := TX6) (N := 7) hx hb hg inG6 tyX6 tyX6_ok nmX6 hown hK.1 hP hD hS 0 rfl rfl 2 (Nat.le_of_ble_eq_true rfl) (hg _ wt_278) (fun _ h9 => h9) rfl hin rfl (by decide +kernel) rfl rfl (Nat.le_of_ble_eq_true rfl) dX6_init_42 (fun H locs hP hD hS => ?_)
  obtain ⟨hP, hD⟩ := va_rls (ws' := [(h0, .inr (6, [.ref q1, .ref q2, .ref q3, .int 0, .int 0, .null, .null])), (q1, .inl (G 0, 4, .inl (upd (upd (upd (upd (fun _ => 0) 0 (-1)) 1 (-1)) 2 (-1)) 3 (-1)))), (q2, .inl (G 0, 4, .inl (fun _ => 0))), (q3, .inl (G 4, 4, .inr (.inr (.inr (.inr (fun ir => if ir < 4 then some (rr4 ir) else none)))))), ((rr4 0), .inl (G 0, 40, .inl (fun _ => 0))), ((rr4 1), .inl (G 0, 40, .inl (fun _ => 0))), ((rr4 2), .inl (G 0, 40, .inl (fun _ => 0))), ((rr4 3), .inl (G 0, 40, .inl (fun _ => 0)))]) hP hD rfl
  refine lv_aload_n hx hb dX6_init_45 rfl (lv_at hl 0 rfl) ?_
  refine lv_bipush (v := 20) hx hb dX6_init_46 rfl ?_
  refine va_newa (atype := .int) (N' := 20) (a0 := (20, .inl (fun _ => 0))) hx hb (hg _ wt_49) rfl hK.1 hP hD hS hA (fun _ => rfl) (by decide) (by decide) (by decide) (Nat.le_of_ble_eq_true rfl) (Nat.le_of_ble_eq_true rfl) dX6_init_48 (fun q5 cA H hK9 hP hD hS => ?_)
  obtain rfl := uniA hK9 0 rfl
  obtain ⟨hP, hD⟩ := va_rls (ws' := [(h0, .inr (6, [.ref q1, .ref q2, .ref q3, .int 0, .int 0, .null, .null])), (q1, .inl (G 0, 4, .inl (upd (upd (upd (upd (fun _ => 0) 0 (-1)) 1 (-1)) 2 (-1)) 3 (-1)))), (q2, .inl (G 0, 4, .inl (fun _ => 0))), (q3, .inl (G 4, 4, .inr (.inr (.inr (.inr (fun ir => if ir < 4 then some (rr4 ir) else none)))))), ((rr4 0), .inl (G 0, 40, .inl (fun _ => 0))), ((rr4 1), .inl (G 0, 40, .inl (fun _ => 0))), ((rr4 2), .inl (G 0, 40, .inl (fun _ => 0))), ((rr4 3), .inl (G 0, 40, .inl (fun _ => 0))), (q5, .inl (G 0, 20, .inl (fun _ => 0)))]) hP hD rfl
  refine W.widen (k := 8) (n := 192) (Nat.le_of_ble_eq_true rfl) (Nat.le_of_ble_eq_true rfl) ?_
  refine va_putF (D := (dC, dI)) (ci := 6) (v := .ref q5) (ty := (.array .int)) (C := RX6) (T := TX6) (N := 7) hx hb hg inG6 tyX6 tyX6_ok nmX6 hown hK.1 hP hD hS 0 rfl rfl 5 (Nat.le_of_ble_eq_true rfl) (hg _ wt_283) (fun _ h9 => h9) rfl hin rfl (by decide +kernel) rfl rfl (Nat.le_of_ble_eq_true rfl) dX6_init_50 (fun H locs hP hD hS => ?_)
  obtain ⟨hP, hD⟩ := va_rls (ws' := [(h0, .inr (6, [.ref q1, .ref q2, .ref q3, .int 0, .int 0, .ref q5, .null])), (q1, .inl (G 0, 4, .inl (upd (upd (upd (upd (fun _ => 0) 0 (-1)) 1 (-1)) 2 (-1)) 3 (-1)))), (q2, .inl (G 0, 4, .inl (fun _ => 0))), (q3, .inl (G 4, 4, .inr (.inr (.inr (.inr (fun ir => if ir < 4 then some (rr4 ir) else none)))))), ((rr4 0), .inl (G 0, 40, .inl (fun _ => 0))), ((rr4 1), .inl (G 0, 40, .inl (fun _ => 0))), ((rr4 2), .inl (G 0, 40, .inl (fun _ => 0))), ((rr4 3), .inl (G 0, 40, .inl (fun _ => 0))), (q5, .inl (G 0, 20, .inl (fun _ => 0)))]) hP hD rfl
  refine lv_aload_n hx hb dX6_init_53 rfl (lv_at hl 0 rfl) ?_
  refine lv_bipush (v := 20) hx hb dX6_init_54 rfl ?_
  refine va_newa (atype := .int) (N' := 20) (a0 := (20, .inl (fun _ => 0))) hx hb (hg _ wt_49) rfl hK.1 hP hD hS hA (fun _ => rfl) (by decide) (by decide) (by decide) (Nat.le_of_ble_eq_true rfl) (Nat.le_of_ble_eq_true rfl) dX6_init_56 (fun q6 cA H hK9 hP hD hS => ?_)
  obtain rfl := uniA hK9 0 rfl
  obtain ⟨hP, hD⟩ := va_rls (ws' := [(h0, .inr (6, [.ref q1, .ref q2, .ref q3, .int 0, .int 0, .ref q5, .null])), (q1, .inl (G 0, 4, .inl (upd (upd (upd (upd (fun _ => 0) 0 (-1)) 1 (-1)) 2 (-1)) 3 (-1)))), (q2, .inl (G 0, 4, .inl (fun _ => 0))), (q3, .inl (G 4, 4, .inr (.inr (.inr (.inr (fun ir => if ir < 4 then some (rr4 ir) else none)))))), ((rr4 0), .inl (G 0, 40, .inl (fun _ => 0))), ((rr4 1), .inl (G 0, 40, .inl (fun _ => 0))), ((rr4 2), .inl (G 0, 40, .inl (fun _ => 0))), ((rr4 3), .inl (G 0, 40, .inl (fun _ => 0))), (q5, .inl (G 0, 20, .inl (fun _ => 0))), (q6, .inl (G 0, 20, .inl (fun _ => 0)))]) hP hD rfl
  refine W.widen (k := 9) (n := 212) (Nat.le_of_ble_eq_true rfl) (Nat.le_of_ble_eq_true rfl) ?_
  refine va_putF (D := (dC, dI)) (ci := 6) (v := .ref q6) (ty := (.array .int)) (C := RX6) (T := TX6) (N := 7) hx hb hg inG6 tyX6 tyX6_ok nmX6 hown hK.1 hP hD hS 0 rfl rfl 6 (Nat.le_of_ble_eq_true rfl) (hg _ wt_285) (fun _ h9 => h9) rfl hin rfl (by decide +kernel) rfl rfl (Nat.le_of_ble_eq_true rfl) dX6_init_58 (fun H locs hP hD hS => ?_)
  obtain ⟨hP, hD⟩ := va_rls (ws' := [(h0, .inr (6, [.ref q1, .ref q2, .ref q3, .int 0, .int 0, .ref q5, .ref q6])), (q1, .inl (G 0, 4, .inl (upd (upd (upd (upd (fun _ => 0) 0 (-1)) 1 (-1)) 2 (-1)) 3 (-1)))), (q2, .inl (G 0, 4, .inl (fun _ => 0))), (q3, .inl (G 4, 4, .inr (.inr (.inr (.inr (fun ir => if ir < 4 then some (rr4 ir) else none)))))), ((rr4 0), .inl (G 0, 40, .inl (fun _ => 0))), ((rr4 1), .inl (G 0, 40, .inl (fun _ => 0))), ((rr4 2), .inl (G 0, 40, .inl (fun _ => 0))), ((rr4 3), .inl (G 0, 40, .inl (fun _ => 0))), (q5, .inl (G 0, 20, .inl (fun _ => 0))), (q6, .inl (G 0, 20, .inl (fun _ => 0)))]) hP hD rfl
  obtain ⟨hP9, hD9⟩ := va_sub2 (ws' := [(h0, .inr (6, [.ref q1, .ref q2, .ref q3, .int 0, .int 0, .ref q5, .ref q6])), (q1, .inl (G 0, 4, .inl (upd (upd (upd (upd (fun _ => 0) 0 (-1)) 1 (-1)) 2 (-1)) 3 (-1)))), (q2, .inl (G 0, 4, .inl (fun _ => 0))), (q3, .inl (G 4, 4, .inr (.inr (.inr (.inr (fun ir => if ir < 4 then some (rr4 ir) else none)))))), (q5, .inl (G 0, 20, .inl (fun _ => 0))), (q6, .inl (G 0, 20, .inl (fun _ => 0))), ((rr4 0), .inl (G 0, 40, .inl (fun _ => 0))), ((rr4 1), .inl (G 0, 40, .inl (fun _ => 0))), ((rr4 2), .inl (G 0, 40, .inl (fun _ => 0))), ((rr4 3), .inl (G 0, 40, .inl (fun _ => 0)))]) hP hD [0, 1, 2, 3, 8, 9, 4, 5, 6, 7] (by decide +kernel) rfl
  refine W.widen (k := 9) (n := 212) (Nat.le_of_ble_eq_true rfl) (Nat.le_of_ble_eq_true rfl) ?_
  exact W.vret hx hb hr (fun t ht hW => ⟨⟨((fun k => match k with | 0 => q1 | 1 => q2 | 2 => q3 | 3 => q5 | 4 => q6 | _ => 0), rr4), rfl, trivial, ⟨by rw [ht]; exact hP9, hD9⟩⟩, hS.F ht⟩) hS.2.2 dX6_init_61

set_option maxHeartbeats 1000000 in
set_option maxRecDepth 100000 in
theorem c_X10_init (l : Launch) (dC : Nat → ClassId) (dI : Nat → Nat → Nat) (G : Nat → ClassId) (sz : Nat) (h0 : Nat)  : Met l yX10_init (Cond.code yX10_init cX10_init 2 none :: GT) ({ frames := 3, cells := 111, slots := 2659, locals := 64 } : Room) (PcW [.ref h0] dC dI G [(h0, .inr (10, [.null, .null, .null, .null, .null, .null, .null, .null, .null, .null, .null, .null, .int 0, .int 0]))] sz) (va_Qv (fun (u : (Nat → Nat) × (Nat → Nat) × (Nat → Nat) × (Nat → Nat) × (Nat → Nat) × (Nat → Nat)) => match u with | (v, rw, rq, ri, ro, rc) => True) (fun (u : (Nat → Nat) × (Nat → Nat) × (Nat → Nat) × (Nat → Nat) × (Nat → Nat) × (Nat → Nat)) (t : State) => match u with | (v, rw, rq, ri, ro, rc) => va_P (dC, dI) vwCl [(h0, .inr (10, [.ref (v 0), .ref (v 1), .ref (v 2), .ref (v 3), .ref (v 4), .ref (v 5), .ref (v 6), .ref (v 7), .ref (v 8), .ref (v 9), .ref (v 10), .ref (v 11), .int 0, .int 0])), ((v 0), .inr (5, [.ref (v 12), .ref (v 13), .int 0, .int 0, .int 0, .int 0, .int 0, .int 0, .int 0, .int 0, .int 0, .int 0])), ((v 12), .inr (7, [.int 0, .ref (v 14)])), ((v 14), .inl (G 0, 320, .inl (fun _ => 0))), ((v 13), .inr (9, [.int 0, .int 0, .int 5, .ref (v 15), .ref (v 16), .ref (v 17), .ref (v 18), .ref (v 19), .ref (v 20)])), ((v 15), .inl (G 0, 10, .inl (fun _ => 0))), ((v 16), .inl (G 0, 10, .inl (fun _ => 0))), ((v 17), .inl (G 0, 10, .inl (fun _ => 0))), ((v 18), .inl (G 0, 6, .inl (fun _ => 0))), ((v 19), .inl (G 0, 6, .inl (fun _ => 0))), ((v 20), .inl (G 0, 6, .inl (fun _ => 0))), ((v 1), .inr (9, [.int 0, .int 0, .int 5, .ref (v 21), .ref (v 22), .ref (v 23), .ref (v 24), .ref (v 25), .ref (v 26)])), ((v 21), .inl (G 0, 10, .inl (fun _ => 0))), ((v 22), .inl (G 0, 10, .inl (fun _ => 0))), ((v 23), .inl (G 0, 10, .inl (fun _ => 0))), ((v 24), .inl (G 0, 6, .inl (fun _ => 0))), ((v 25), .inl (G 0, 6, .inl (fun _ => 0))), ((v 26), .inl (G 0, 6, .inl (fun _ => 0))), ((v 2), .inr (9, [.int 0, .int 0, .int 5, .ref (v 27), .ref (v 28), .ref (v 29), .ref (v 30), .ref (v 31), .ref (v 32)])), ((v 27), .inl (G 0, 10, .inl (fun _ => 0))), ((v 28), .inl (G 0, 10, .inl (fun _ => 0))), ((v 29), .inl (G 0, 10, .inl (fun _ => 0))), ((v 30), .inl (G 0, 6, .inl (fun _ => 0))), ((v 31), .inl (G 0, 6, .inl (fun _ => 0))), ((v 32), .inl (G 0, 6, .inl (fun _ => 0))), ((v 3), .inl (G 3, 2, .inr (.inr (.inr (.inr (va_up (va_up (fun _ => none) 0 (some (v 33))) 1 (some (v 34)))))))), ((v 33), .inr (9, [.int 0, .int 0, .int 5, .ref (v 35), .ref (v 36), .ref (v 37), .ref (v 38), .ref (v 39), .ref (v 40)])), ((v 35), .inl (G 0, 10, .inl (fun _ => 0))), ((v 36), .inl (G 0, 10, .inl (fun _ => 0))), ((v 37), .inl (G 0, 10, .inl (fun _ => 0))), ((v 38), .inl (G 0, 6, .inl (fun _ => 0))), ((v 39), .inl (G 0, 6, .inl (fun _ => 0))), ((v 40), .inl (G 0, 6, .inl (fun _ => 0))), ((v 34), .inr (9, [.int 0, .int 0, .int 5, .ref (v 41), .ref (v 42), .ref (v 43), .ref (v 44), .ref (v 45), .ref (v 46)])), ((v 41), .inl (G 0, 10, .inl (fun _ => 0))), ((v 42), .inl (G 0, 10, .inl (fun _ => 0))), ((v 43), .inl (G 0, 10, .inl (fun _ => 0))), ((v 44), .inl (G 0, 6, .inl (fun _ => 0))), ((v 45), .inl (G 0, 6, .inl (fun _ => 0))), ((v 46), .inl (G 0, 6, .inl (fun _ => 0))), ((v 4), .inl (G 2, 2, .inl (fun _ => 0))), ((v 5), .inr (4, [.long 1, .ref (v 47), .ref (v 48)])), ((v 47), .inl (G 1, 10, .inr (.inl (fun _ => 0)))), ((v 48), .inl (G 1, 10, .inr (.inl (fun _ => 0)))), ((v 6), .inr (0, [.long 1, .ref (v 49), .ref (v 50)])), ((v 49), .inl (G 5, 11, .inr (.inr (.inr (.inr (fun ir => if ir < 11 then some (rw ir) else none)))))), ((v 50), .inl (G 4, 10, .inr (.inr (.inr (.inr (fun ir => if ir < 10 then some (rq ir) else none)))))), ((rw 0), .inl (G 1, 70, .inr (.inl (fun _ => 0)))), ((rw 1), .inl (G 1, 70, .inr (.inl (fun _ => 0)))), ((rw 2), .inl (G 1, 70, .inr (.inl (fun _ => 0)))), ((rw 3), .inl (G 1, 70, .inr (.inl (fun _ => 0)))), ((rw 4), .inl (G 1, 70, .inr (.inl (fun _ => 0)))), ((rw 5), .inl (G 1, 70, .inr (.inl (fun _ => 0)))), ((rw 6), .inl (G 1, 70, .inr (.inl (fun _ => 0)))), ((rw 7), .inl (G 1, 70, .inr (.inl (fun _ => 0)))), ((rw 8), .inl (G 1, 70, .inr (.inl (fun _ => 0)))), ((rw 9), .inl (G 1, 70, .inr (.inl (fun _ => 0)))), ((rw 10), .inl (G 1, 70, .inr (.inl (fun _ => 0)))), ((rq 0), .inl (G 0, 70, .inl (fun _ => 0))), ((rq 1), .inl (G 0, 70, .inl (fun _ => 0))), ((rq 2), .inl (G 0, 70, .inl (fun _ => 0))), ((rq 3), .inl (G 0, 70, .inl (fun _ => 0))), ((rq 4), .inl (G 0, 70, .inl (fun _ => 0))), ((rq 5), .inl (G 0, 70, .inl (fun _ => 0))), ((rq 6), .inl (G 0, 70, .inl (fun _ => 0))), ((rq 7), .inl (G 0, 70, .inl (fun _ => 0))), ((rq 8), .inl (G 0, 70, .inl (fun _ => 0))), ((rq 9), .inl (G 0, 70, .inl (fun _ => 0))), ((v 7), .inr (1, [.int 0, .int 0, .int 0])), ((v 8), .inr (2, [.int 0, .ref (v 51), .ref (v 52), .ref (v 53), .ref (v 54)])), ((v 51), .inl (G 0, 8, .inl (fun _ => 0))), ((v 52), .inl (G 0, 8, .inl (fun _ => 0))), ((v 53), .inl (G 0, 8, .inl (fun _ => 0))), ((v 54), .inl (G 0, 8, .inl (fun _ => 0))), ((v 9), .inr (3, [.int 0, .ref (v 55), .ref (v 56)])), ((v 55), .inl (G 0, 6, .inl (fun _ => 0))), ((v 56), .inl (G 0, 6, .inl (fun _ => 0))), ((v 10), .inr (8, [.int 0, .ref (v 57), .ref (v 58)])), ((v 57), .inl (G 4, 11, .inr (.inr (.inr (.inr (fun ir => if ir < 11 then some (ri ir) else none)))))), ((v 58), .inl (G 4, 11, .inr (.inr (.inr (.inr (fun ir => if ir < 11 then some (ro ir) else none)))))), ((ri 0), .inl (G 0, 10, .inl (fun _ => 0))), ((ri 1), .inl (G 0, 10, .inl (fun _ => 0))), ((ri 2), .inl (G 0, 10, .inl (fun _ => 0))), ((ri 3), .inl (G 0, 10, .inl (fun _ => 0))), ((ri 4), .inl (G 0, 10, .inl (fun _ => 0))), ((ri 5), .inl (G 0, 10, .inl (fun _ => 0))), ((ri 6), .inl (G 0, 10, .inl (fun _ => 0))), ((ri 7), .inl (G 0, 10, .inl (fun _ => 0))), ((ri 8), .inl (G 0, 10, .inl (fun _ => 0))), ((ri 9), .inl (G 0, 10, .inl (fun _ => 0))), ((ri 10), .inl (G 0, 10, .inl (fun _ => 0))), ((ro 0), .inl (G 0, 10, .inl (fun _ => 0))), ((ro 1), .inl (G 0, 10, .inl (fun _ => 0))), ((ro 2), .inl (G 0, 10, .inl (fun _ => 0))), ((ro 3), .inl (G 0, 10, .inl (fun _ => 0))), ((ro 4), .inl (G 0, 10, .inl (fun _ => 0))), ((ro 5), .inl (G 0, 10, .inl (fun _ => 0))), ((ro 6), .inl (G 0, 10, .inl (fun _ => 0))), ((ro 7), .inl (G 0, 10, .inl (fun _ => 0))), ((ro 8), .inl (G 0, 10, .inl (fun _ => 0))), ((ro 9), .inl (G 0, 10, .inl (fun _ => 0))), ((ro 10), .inl (G 0, 10, .inl (fun _ => 0))), ((v 11), .inr (6, [.ref (v 59), .ref (v 60), .ref (v 61), .int 0, .int 0, .ref (v 62), .ref (v 63)])), ((v 59), .inl (G 0, 4, .inl (upd (upd (upd (upd (fun _ => 0) 0 (-1)) 1 (-1)) 2 (-1)) 3 (-1)))), ((v 60), .inl (G 0, 4, .inl (fun _ => 0))), ((v 61), .inl (G 4, 4, .inr (.inr (.inr (.inr (fun ir => if ir < 4 then some (rc ir) else none)))))), ((v 62), .inl (G 0, 20, .inl (fun _ => 0))), ((v 63), .inl (G 0, 20, .inl (fun _ => 0))), ((rc 0), .inl (G 0, 40, .inl (fun _ => 0))), ((rc 1), .inl (G 0, 40, .inl (fun _ => 0))), ((rc 2), .inl (G 0, 40, .inl (fun _ => 0))), ((rc 3), .inl (G 0, 40, .inl (fun _ => 0)))] t.heap ∧ va_D (va_A [(h0, .inr (10, [.null, .null, .null, .null, .null, .null, .null, .null, .null, .null, .null, .null, .int 0, .int 0]))] sz) [(h0, .inr (10, [.ref (v 0), .ref (v 1), .ref (v 2), .ref (v 3), .ref (v 4), .ref (v 5), .ref (v 6), .ref (v 7), .ref (v 8), .ref (v 9), .ref (v 10), .ref (v 11), .int 0, .int 0])), ((v 0), .inr (5, [.ref (v 12), .ref (v 13), .int 0, .int 0, .int 0, .int 0, .int 0, .int 0, .int 0, .int 0, .int 0, .int 0])), ((v 12), .inr (7, [.int 0, .ref (v 14)])), ((v 14), .inl (G 0, 320, .inl (fun _ => 0))), ((v 13), .inr (9, [.int 0, .int 0, .int 5, .ref (v 15), .ref (v 16), .ref (v 17), .ref (v 18), .ref (v 19), .ref (v 20)])), ((v 15), .inl (G 0, 10, .inl (fun _ => 0))), ((v 16), .inl (G 0, 10, .inl (fun _ => 0))), ((v 17), .inl (G 0, 10, .inl (fun _ => 0))), ((v 18), .inl (G 0, 6, .inl (fun _ => 0))), ((v 19), .inl (G 0, 6, .inl (fun _ => 0))), ((v 20), .inl (G 0, 6, .inl (fun _ => 0))), ((v 1), .inr (9, [.int 0, .int 0, .int 5, .ref (v 21), .ref (v 22), .ref (v 23), .ref (v 24), .ref (v 25), .ref (v 26)])), ((v 21), .inl (G 0, 10, .inl (fun _ => 0))), ((v 22), .inl (G 0, 10, .inl (fun _ => 0))), ((v 23), .inl (G 0, 10, .inl (fun _ => 0))), ((v 24), .inl (G 0, 6, .inl (fun _ => 0))), ((v 25), .inl (G 0, 6, .inl (fun _ => 0))), ((v 26), .inl (G 0, 6, .inl (fun _ => 0))), ((v 2), .inr (9, [.int 0, .int 0, .int 5, .ref (v 27), .ref (v 28), .ref (v 29), .ref (v 30), .ref (v 31), .ref (v 32)])), ((v 27), .inl (G 0, 10, .inl (fun _ => 0))), ((v 28), .inl (G 0, 10, .inl (fun _ => 0))), ((v 29), .inl (G 0, 10, .inl (fun _ => 0))), ((v 30), .inl (G 0, 6, .inl (fun _ => 0))), ((v 31), .inl (G 0, 6, .inl (fun _ => 0))), ((v 32), .inl (G 0, 6, .inl (fun _ => 0))), ((v 3), .inl (G 3, 2, .inr (.inr (.inr (.inr (va_up (va_up (fun _ => none) 0 (some (v 33))) 1 (some (v 34)))))))), ((v 33), .inr (9, [.int 0, .int 0, .int 5, .ref (v 35), .ref (v 36), .ref (v 37), .ref (v 38), .ref (v 39), .ref (v 40)])), ((v 35), .inl (G 0, 10, .inl (fun _ => 0))), ((v 36), .inl (G 0, 10, .inl (fun _ => 0))), ((v 37), .inl (G 0, 10, .inl (fun _ => 0))), ((v 38), .inl (G 0, 6, .inl (fun _ => 0))), ((v 39), .inl (G 0, 6, .inl (fun _ => 0))), ((v 40), .inl (G 0, 6, .inl (fun _ => 0))), ((v 34), .inr (9, [.int 0, .int 0, .int 5, .ref (v 41), .ref (v 42), .ref (v 43), .ref (v 44), .ref (v 45), .ref (v 46)])), ((v 41), .inl (G 0, 10, .inl (fun _ => 0))), ((v 42), .inl (G 0, 10, .inl (fun _ => 0))), ((v 43), .inl (G 0, 10, .inl (fun _ => 0))), ((v 44), .inl (G 0, 6, .inl (fun _ => 0))), ((v 45), .inl (G 0, 6, .inl (fun _ => 0))), ((v 46), .inl (G 0, 6, .inl (fun _ => 0))), ((v 4), .inl (G 2, 2, .inl (fun _ => 0))), ((v 5), .inr (4, [.long 1, .ref (v 47), .ref (v 48)])), ((v 47), .inl (G 1, 10, .inr (.inl (fun _ => 0)))), ((v 48), .inl (G 1, 10, .inr (.inl (fun _ => 0)))), ((v 6), .inr (0, [.long 1, .ref (v 49), .ref (v 50)])), ((v 49), .inl (G 5, 11, .inr (.inr (.inr (.inr (fun ir => if ir < 11 then some (rw ir) else none)))))), ((v 50), .inl (G 4, 10, .inr (.inr (.inr (.inr (fun ir => if ir < 10 then some (rq ir) else none)))))), ((rw 0), .inl (G 1, 70, .inr (.inl (fun _ => 0)))), ((rw 1), .inl (G 1, 70, .inr (.inl (fun _ => 0)))), ((rw 2), .inl (G 1, 70, .inr (.inl (fun _ => 0)))), ((rw 3), .inl (G 1, 70, .inr (.inl (fun _ => 0)))), ((rw 4), .inl (G 1, 70, .inr (.inl (fun _ => 0)))), ((rw 5), .inl (G 1, 70, .inr (.inl (fun _ => 0)))), ((rw 6), .inl (G 1, 70, .inr (.inl (fun _ => 0)))), ((rw 7), .inl (G 1, 70, .inr (.inl (fun _ => 0)))), ((rw 8), .inl (G 1, 70, .inr (.inl (fun _ => 0)))), ((rw 9), .inl (G 1, 70, .inr (.inl (fun _ => 0)))), ((rw 10), .inl (G 1, 70, .inr (.inl (fun _ => 0)))), ((rq 0), .inl (G 0, 70, .inl (fun _ => 0))), ((rq 1), .inl (G 0, 70, .inl (fun _ => 0))), ((rq 2), .inl (G 0, 70, .inl (fun _ => 0))), ((rq 3), .inl (G 0, 70, .inl (fun _ => 0))), ((rq 4), .inl (G 0, 70, .inl (fun _ => 0))), ((rq 5), .inl (G 0, 70, .inl (fun _ => 0))), ((rq 6), .inl (G 0, 70, .inl (fun _ => 0))), ((rq 7), .inl (G 0, 70, .inl (fun _ => 0))), ((rq 8), .inl (G 0, 70, .inl (fun _ => 0))), ((rq 9), .inl (G 0, 70, .inl (fun _ => 0))), ((v 7), .inr (1, [.int 0, .int 0, .int 0])), ((v 8), .inr (2, [.int 0, .ref (v 51), .ref (v 52), .ref (v 53), .ref (v 54)])), ((v 51), .inl (G 0, 8, .inl (fun _ => 0))), ((v 52), .inl (G 0, 8, .inl (fun _ => 0))), ((v 53), .inl (G 0, 8, .inl (fun _ => 0))), ((v 54), .inl (G 0, 8, .inl (fun _ => 0))), ((v 9), .inr (3, [.int 0, .ref (v 55), .ref (v 56)])), ((v 55), .inl (G 0, 6, .inl (fun _ => 0))), ((v 56), .inl (G 0, 6, .inl (fun _ => 0))), ((v 10), .inr (8, [.int 0, .ref (v 57), .ref (v 58)])), ((v 57), .inl (G 4, 11, .inr (.inr (.inr (.inr (fun ir => if ir < 11 then some (ri ir) else none)))))), ((v 58), .inl (G 4, 11, .inr (.inr (.inr (.inr (fun ir => if ir < 11 then some (ro ir) else none)))))), ((ri 0), .inl (G 0, 10, .inl (fun _ => 0))), ((ri 1), .inl (G 0, 10, .inl (fun _ => 0))), ((ri 2), .inl (G 0, 10, .inl (fun _ => 0))), ((ri 3), .inl (G 0, 10, .inl (fun _ => 0))), ((ri 4), .inl (G 0, 10, .inl (fun _ => 0))), ((ri 5), .inl (G 0, 10, .inl (fun _ => 0))), ((ri 6), .inl (G 0, 10, .inl (fun _ => 0))), ((ri 7), .inl (G 0, 10, .inl (fun _ => 0))), ((ri 8), .inl (G 0, 10, .inl (fun _ => 0))), ((ri 9), .inl (G 0, 10, .inl (fun _ => 0))), ((ri 10), .inl (G 0, 10, .inl (fun _ => 0))), ((ro 0), .inl (G 0, 10, .inl (fun _ => 0))), ((ro 1), .inl (G 0, 10, .inl (fun _ => 0))), ((ro 2), .inl (G 0, 10, .inl (fun _ => 0))), ((ro 3), .inl (G 0, 10, .inl (fun _ => 0))), ((ro 4), .inl (G 0, 10, .inl (fun _ => 0))), ((ro 5), .inl (G 0, 10, .inl (fun _ => 0))), ((ro 6), .inl (G 0, 10, .inl (fun _ => 0))), ((ro 7), .inl (G 0, 10, .inl (fun _ => 0))), ((ro 8), .inl (G 0, 10, .inl (fun _ => 0))), ((ro 9), .inl (G 0, 10, .inl (fun _ => 0))), ((ro 10), .inl (G 0, 10, .inl (fun _ => 0))), ((v 11), .inr (6, [.ref (v 59), .ref (v 60), .ref (v 61), .int 0, .int 0, .ref (v 62), .ref (v 63)])), ((v 59), .inl (G 0, 4, .inl (upd (upd (upd (upd (fun _ => 0) 0 (-1)) 1 (-1)) 2 (-1)) 3 (-1)))), ((v 60), .inl (G 0, 4, .inl (fun _ => 0))), ((v 61), .inl (G 4, 4, .inr (.inr (.inr (.inr (fun ir => if ir < 4 then some (rc ir) else none)))))), ((v 62), .inl (G 0, 20, .inl (fun _ => 0))), ((v 63), .inl (G 0, 20, .inl (fun _ => 0))), ((rc 0), .inl (G 0, 40, .inl (fun _ => 0))), ((rc 1), .inl (G 0, 40, .inl (fun _ => 0))), ((rc 2), .inl (G 0, 40, .inl (fun _ => 0))), ((rc 3), .inl (G 0, 40, .inl (fun _ => 0)))]) (va_A [(h0, .inr (10, [.null, .null, .null, .null, .null, .null, .null, .null, .null, .null, .null, .null, .int 0, .int 0]))] sz)) 111 2659 (va_A [(h0, .inr (10, [.null, .null, .null, .null, .null, .null, .null, .null, .null, .null, .null, .null, .int 0, .int 0]))] sz) := by
  refine Met.ofW (cc := cX10_init) (maxL := 2) (ret := none) (by decide) rfl ?_
  intro p e s m args below meth c s₁ Bd hml hv
  obtain ⟨rfl, hsz, hP, hK, hD0⟩ := hv
  have hx := Bd.exec
  have hb := Bd.bytes
  have hr := Bd.returns
  have hg : ∀ w ∈ GT, w.before ([.ref h0] : List Value).toArray s = true := fun w h => atoms_spec (ws := Cond.code yX10_init cX10_init 2 none :: GT) Bd.pre w (List.mem_cons_of_mem _ h)
  have hown : s.vm.findClass RX10 = some m.cls := findClass_of_methodNamed Bd.named
  have hlocks := Bd.notSynchronized
  have hin : meth.name = "<init>" := (name_of_methodNamed Bd.named Bd.method).1
  subst hsz
  have hD := hD0.self (sz := s.heap.size)
  generalize hAe : va_A [(h0, .inr (10, [.null, .null, .null, .null, .null, .null, .null, .null, .null, .null, .null, .null, .int 0, .int 0]))] s.heap.size = A at hD ⊢
  have hA : ∀ q : Nat, s.heap.size ≤ q → A q := fun q h => by rw [← hAe]; exact Or.inr h
  have hS : va_S A s.heap s.heap [] := va_S.rf
  have hl := lv_entry ([.ref h0]) (n := 2) (Nat.le_of_ble_eq_true rfl)
  rw [lg_entry_eq]
  generalize (lg_sl ([.ref h0]) ++ List.replicate (2 - (lg_sl ([.ref h0])).length) Slot.unset).toArray = ls at hl ⊢
  have hl : lv_has ls 2 [(0, .ref h0)] := hl
  refine lv_aload_n hx hb dX10_init_0 rfl (lv_at hl 0 rfl) ?_
  refine W.objInit hx hb hown (hg _ wt_25) (hg _ wt_26) (hg _ wt_27) rfl (by rw [hml]; exact hl.1) rfl dX10_init_1 (Nat.le_of_ble_eq_true rfl) (Nat.le_of_ble_eq_true rfl) ?_
  refine W.eq (g2 := F0 m 4 ls []) rfl ?_
  refine lv_aload_n hx hb dX10_init_4 rfl (lv_at hl 0 rfl) ?_
  refine va_new (ci := 5) (fs := [.null, .null, .int 0, .int 0, .int 0, .int 0, .int 0, .int 0, .int 0, .int 0, .int 0, .int 0]) (C := RX5) (T := TX5) (N := 12) hx hb hg inG5 tyX5 tyX5_ok hown (hg _ wt_28) (hg _ wt_29) (hg _ wt_2) hK.1 hP hD hS hA rfl nwX5 (Nat.le_of_ble_eq_true rfl) (Nat.le_of_ble_eq_true rfl) dX10_init_5 (fun q1 H hP hD hS => ?_)
  obtain ⟨hP, hD⟩ := va_rls (ws' := [(h0, .inr (10, [.null, .null, .null, .null, .null, .null, .null, .null, .null, .null, .null, .null, .int 0, .int 0])), (q1, .inr (5, [.null, .null, .int 0, .int 0, .int 0, .int 0, .int 0, .int 0, .int 0, .int 0, .int 0, .int 0]))]) hP hD rfl
  refine W.widen (k := 1) (n := 12) (Nat.le_of_ble_eq_true rfl) (Nat.le_of_ble_eq_true rfl) ?_
  refine lv_dup hx hb dX10_init_8 rfl ?_
  obtain ⟨hPc, hDc, hFc⟩ := va_sub3 (ws' := [(q1, .inr (5, [.null, .null, .int 0, .int 0, .int 0, .int 0, .int 0, .int 0, .int 0, .int 0, .int 0, .int 0]))]) hP hD hS hA [1] (by decide +kernel) rfl
  refine va_callv (va_runIN (As := []) (rest := [.ref q1, .ref h0]) ⟨hx, hb, hml, hown, hg⟩ (c_X5_init l dC dI G _ q1) (kwIN hg hK mfX5_init wn_30 ⟨Nat.le_of_ble_eq_true rfl, Nat.le_of_ble_eq_true rfl⟩) (preSW hK hPc hDc) rfl rfl hl.1 rfl (lv_room (Nat.le_of_ble_eq_true rfl)) dX10_init_9 ⟨Nat.le_of_ble_eq_true rfl, Nat.le_of_ble_eq_true rfl⟩) hS (fun q _ h => hFc q h) hFc (fun ur2 t H1 locs ht hvm w3 hB hz1 hk1 hS => ?_)
  obtain ⟨u4, rfl⟩ : ∃ z, z = ur2 := ⟨_, rfl⟩
  obtain ⟨hP1, hD1⟩ := hB
  rw [ht] at hP1
  obtain ⟨hP, hD⟩ := va_join (wr := [(h0, .inr (10, [.null, .null, .null, .null, .null, .null, .null, .null, .null, .null, .null, .null, .int 0, .int 0]))]) (w1 := [(q1, .inr (5, [.ref (u4 0), .ref (u4 1), .int 0, .int 0, .int 0, .int 0, .int 0, .int 0, .int 0, .int 0, .int 0, .int 0])), ((u4 0), .inr (7, [.int 0, .ref (u4 2)])), ((u4 2), .inl (G 0, 320, .inl (fun _ => 0))), ((u4 1), .inr (9, [.int 0, .int 0, .int 5, .ref (u4 3), .ref (u4 4), .ref (u4 5), .ref (u4 6), .ref (u4 7), .ref (u4 8)])), ((u4 3), .inl (G 0, 10, .inl (fun _ => 0))), ((u4 4), .inl (G 0, 10, .inl (fun _ => 0))), ((u4 5), .inl (G 0, 10, .inl (fun _ => 0))), ((u4 6), .inl (G 0, 6, .inl (fun _ => 0))), ((u4 7), .inl (G 0, 6, .inl (fun _ => 0))), ((u4 8), .inl (G 0, 6, .inl (fun _ => 0)))]) hP hD [1] [0] rfl rfl (by decide +kernel) (by decide +kernel) hk1 hFc hP1 hD1
  generalize H1 = H at hP hS ⊢
  obtain ⟨hP, hD⟩ := va_rls (ws' := [(h0, .inr (10, [.null, .null, .null, .null, .null, .null, .null, .null, .null, .null, .null, .null, .int 0, .int 0])), (q1, .inr (5, [.ref (u4 0), .ref (u4 1), .int 0, .int 0, .int 0, .int 0, .int 0, .int 0, .int 0, .int 0, .int 0, .int 0])), ((u4 0), .inr (7, [.int 0, .ref (u4 2)])), ((u4 2), .inl (G 0, 320, .inl (fun _ => 0))), ((u4 1), .inr (9, [.int 0, .int 0, .int 5, .ref (u4 3), .ref (u4 4), .ref (u4 5), .ref (u4 6), .ref (u4 7), .ref (u4 8)])), ((u4 3), .inl (G 0, 10, .inl (fun _ => 0))), ((u4 4), .inl (G 0, 10, .inl (fun _ => 0))), ((u4 5), .inl (G 0, 10, .inl (fun _ => 0))), ((u4 6), .inl (G 0, 6, .inl (fun _ => 0))), ((u4 7), .inl (G 0, 6, .inl (fun _ => 0))), ((u4 8), .inl (G 0, 6, .inl (fun _ => 0)))]) hP hD rfl
  refine W.widen (k := 10) (n := 391) (Nat.le_of_ble_eq_true rfl) (Nat.le_of_ble_eq_true rfl) ?_
  refine va_putF (D := (dC, dI)) (ci := 10) (v := .ref q1) (ty := (.object "AsleepPass$Reader")) (C := RX10) (T := TX10) (N := 14) hx hb hg inG10 tyX10 tyX10_ok nmX10 hown hK.1 hP hD hS 0 rfl rfl 0 (Nat.le_of_ble_eq_true rfl) (hg _ wt_302) (fun _ h9 => h9) rfl hin rfl (by decide +kernel) rfl rfl (Nat.le_of_ble_eq_true rfl) dX10_init_12 (fun H locs hP hD hS => ?_)
  obtain ⟨hP, hD⟩ := va_rls (ws' := [(h0, .inr (10, [.ref q1, .null, .null, .null, .null, .null, .null, .null, .null, .null, .null, .null, .int 0, .int 0])), (q1, .inr (5, [.ref (u4 0), .ref (u4 1), .int 0, .int 0, .int 0, .int 0, .int 0, .int 0, .int 0, .int 0, .int 0, .int 0])), ((u4 0), .inr (7, [.int 0, .ref (u4 2)])), ((u4 2), .inl (G 0, 320, .inl (fun _ => 0))), ((u4 1), .inr (9, [.int 0, .int 0, .int 5, .ref (u4 3), .ref (u4 4), .ref (u4 5), .ref (u4 6), .ref (u4 7), .ref (u4 8)])), ((u4 3), .inl (G 0, 10, .inl (fun _ => 0))), ((u4 4), .inl (G 0, 10, .inl (fun _ => 0))), ((u4 5), .inl (G 0, 10, .inl (fun _ => 0))), ((u4 6), .inl (G 0, 6, .inl (fun _ => 0))), ((u4 7), .inl (G 0, 6, .inl (fun _ => 0))), ((u4 8), .inl (G 0, 6, .inl (fun _ => 0)))]) hP hD rfl
  refine lv_aload_n hx hb dX10_init_15 rfl (lv_at hl 0 rfl) ?_
  refine va_new (ci := 9) (fs := [.int 0, .int 0, .int 0, .null, .null, .null, .null, .null, .null]) (C := RX9) (T := TX9) (N := 9) hx hb hg inG9 tyX9 tyX9_ok hown (hg _ wt_147) (hg _ wt_51) (hg _ wt_4) hK.1 hP hD hS hA rfl nwX9 (Nat.le_of_ble_eq_true rfl) (Nat.le_of_ble_eq_true rfl) dX10_init_16 (fun q5 H hP hD hS => ?_)
  obtain ⟨hP, hD⟩ := va_rls (ws' := [(h0, .inr (10, [.ref q1, .null, .null, .null, .null, .null, .null, .null, .null, .null, .null, .null, .int 0, .int 0])), (q1, .inr (5, [.ref (u4 0), .ref (u4 1), .int 0, .int 0, .int 0, .int 0, .int 0, .int 0, .int 0, .int 0, .int 0, .int 0])), ((u4 0), .inr (7, [.int 0, .ref (u4 2)])), ((u4 2), .inl (G 0, 320, .inl (fun _ => 0))), ((u4 1), .inr (9, [.int 0, .int 0, .int 5, .ref (u4 3), .ref (u4 4), .ref (u4 5), .ref (u4 6), .ref (u4 7), .ref (u4 8)])), ((u4 3), .inl (G 0, 10, .inl (fun _ => 0))), ((u4 4), .inl (G 0, 10, .inl (fun _ => 0))), ((u4 5), .inl (G 0, 10, .inl (fun _ => 0))), ((u4 6), .inl (G 0, 6, .inl (fun _ => 0))), ((u4 7), .inl (G 0, 6, .inl (fun _ => 0))), ((u4 8), .inl (G 0, 6, .inl (fun _ => 0))), (q5, .inr (9, [.int 0, .int 0, .int 0, .null, .null, .null, .null, .null, .null]))]) hP hD rfl
  refine W.widen (k := 11) (n := 400) (Nat.le_of_ble_eq_true rfl) (Nat.le_of_ble_eq_true rfl) ?_
  refine lv_dup hx hb dX10_init_19 rfl ?_
  obtain ⟨hPc, hDc, hFc⟩ := va_sub3 (ws' := [(q5, .inr (9, [.int 0, .int 0, .int 0, .null, .null, .null, .null, .null, .null]))]) hP hD hS hA [11] (by decide +kernel) rfl
  refine va_callv (va_runIN (As := []) (rest := [.ref q5, .ref h0]) ⟨hx, hb, hml, hown, hg⟩ (c_X9_init l dC dI G _ q5) (kwIN hg hK mfX9_init wn_148 ⟨Nat.le_of_ble_eq_true rfl, Nat.le_of_ble_eq_true rfl⟩) (preSW hK hPc hDc) rfl rfl hl.1 rfl (lv_room (Nat.le_of_ble_eq_true rfl)) dX10_init_20 ⟨Nat.le_of_ble_eq_true rfl, Nat.le_of_ble_eq_true rfl⟩) hS (fun q _ h => hFc q h) hFc (fun ur6 t H1 locs ht hvm w7 hB hz1 hk1 hS => ?_)
  obtain ⟨u8, rfl⟩ : ∃ z, z = ur6 := ⟨_, rfl⟩
  obtain ⟨hP1, hD1⟩ := hB
  rw [ht] at hP1
  obtain ⟨hP, hD⟩ := va_join (wr := [(h0, .inr (10, [.ref q1, .null, .null, .null, .null, .null, .null, .null, .null, .null, .null, .null, .int 0, .int 0])), (q1, .inr (5, [.ref (u4 0), .ref (u4 1), .int 0, .int 0, .int 0, .int 0, .int 0, .int 0, .int 0, .int 0, .int 0, .int 0])), ((u4 0), .inr (7, [.int 0, .ref (u4 2)])), ((u4 2), .inl (G 0, 320, .inl (fun _ => 0))), ((u4 1), .inr (9, [.int 0, .int 0, .int 5, .ref (u4 3), .ref (u4 4), .ref (u4 5), .ref (u4 6), .ref (u4 7), .ref (u4 8)])), ((u4 3), .inl (G 0, 10, .inl (fun _ => 0))), ((u4 4), .inl (G 0, 10, .inl (fun _ => 0))), ((u4 5), .inl (G 0, 10, .inl (fun _ => 0))), ((u4 6), .inl (G 0, 6, .inl (fun _ => 0))), ((u4 7), .inl (G 0, 6, .inl (fun _ => 0))), ((u4 8), .inl (G 0, 6, .inl (fun _ => 0)))]) (w1 := [(q5, .inr (9, [.int 0, .int 0, .int 5, .ref (u8 0), .ref (u8 1), .ref (u8 2), .ref (u8 3), .ref (u8 4), .ref (u8 5)])), ((u8 0), .inl (G 0, 10, .inl (fun _ => 0))), ((u8 1), .inl (G 0, 10, .inl (fun _ => 0))), ((u8 2), .inl (G 0, 10, .inl (fun _ => 0))), ((u8 3), .inl (G 0, 6, .inl (fun _ => 0))), ((u8 4), .inl (G 0, 6, .inl (fun _ => 0))), ((u8 5), .inl (G 0, 6, .inl (fun _ => 0)))]) hP hD [11] [0, 1, 2, 3, 4, 5, 6, 7, 8, 9, 10] rfl rfl (by decide +kernel) (by decide +kernel) hk1 hFc hP1 hD1
  generalize H1 = H at hP hS ⊢
  obtain ⟨hP, hD⟩ := va_rls (ws' := [(h0, .inr (10, [.ref q1, .null, .null, .null, .null, .null, .null, .null, .null, .null, .null, .null, .int 0, .int 0])), (q1, .inr (5, [.ref (u4 0), .ref (u4 1), .int 0, .int 0, .int 0, .int 0, .int 0, .int 0, .int 0, .int 0, .int 0, .int 0])), ((u4 0), .inr (7, [.int 0, .ref (u4 2)])), ((u4 2), .inl (G 0, 320, .inl (fun _ => 0))), ((u4 1), .inr (9, [.int 0, .int 0, .int 5, .ref (u4 3), .ref (u4 4), .ref (u4 5), .ref (u4 6), .ref (u4 7), .ref (u4 8)])), ((u4 3), .inl (G 0, 10, .inl (fun _ => 0))), ((u4 4), .inl (G 0, 10, .inl (fun _ => 0))), ((u4 5), .inl (G 0, 10, .inl (fun _ => 0))), ((u4 6), .inl (G 0, 6, .inl (fun _ => 0))), ((u4 7), .inl (G 0, 6, .inl (fun _ => 0))), ((u4 8), .inl (G 0, 6, .inl (fun _ => 0))), (q5, .inr (9, [.int 0, .int 0, .int 5, .ref (u8 0), .ref (u8 1), .ref (u8 2), .ref (u8 3), .ref (u8 4), .ref (u8 5)])), ((u8 0), .inl (G 0, 10, .inl (fun _ => 0))), ((u8 1), .inl (G 0, 10, .inl (fun _ => 0))), ((u8 2), .inl (G 0, 10, .inl (fun _ => 0))), ((u8 3), .inl (G 0, 6, .inl (fun _ => 0))), ((u8 4), .inl (G 0, 6, .inl (fun _ => 0))), ((u8 5), .inl (G 0, 6, .inl (fun _ => 0)))]) hP hD rfl
  refine W.widen (k := 17) (n := 448) (Nat.le_of_ble_eq_true rfl) (Nat.le_of_ble_eq_true rfl) ?_
  refine va_putF (D := (dC, dI)) (ci := 10) (v := .ref q5) (ty := (.object "AsleepPass$Way")) (C := RX10) (T := TX10) (N := 14) hx hb hg inG10 tyX10 tyX10_ok nmX10 hown hK.1 hP hD hS 0 rfl rfl 1 (Nat.le_of_ble_eq_true rfl) (hg _ wt_303) (fun _ h9 => h9) rfl hin rfl (by decide +kernel) rfl rfl (Nat.le_of_ble_eq_true rfl) dX10_init_23 (fun H locs hP hD hS => ?_)
  obtain ⟨hP, hD⟩ := va_rls (ws' := [(h0, .inr (10, [.ref q1, .ref q5, .null, .null, .null, .null, .null, .null, .null, .null, .null, .null, .int 0, .int 0])), (q1, .inr (5, [.ref (u4 0), .ref (u4 1), .int 0, .int 0, .int 0, .int 0, .int 0, .int 0, .int 0, .int 0, .int 0, .int 0])), ((u4 0), .inr (7, [.int 0, .ref (u4 2)])), ((u4 2), .inl (G 0, 320, .inl (fun _ => 0))), ((u4 1), .inr (9, [.int 0, .int 0, .int 5, .ref (u4 3), .ref (u4 4), .ref (u4 5), .ref (u4 6), .ref (u4 7), .ref (u4 8)])), ((u4 3), .inl (G 0, 10, .inl (fun _ => 0))), ((u4 4), .inl (G 0, 10, .inl (fun _ => 0))), ((u4 5), .inl (G 0, 10, .inl (fun _ => 0))), ((u4 6), .inl (G 0, 6, .inl (fun _ => 0))), ((u4 7), .inl (G 0, 6, .inl (fun _ => 0))), ((u4 8), .inl (G 0, 6, .inl (fun _ => 0))), (q5, .inr (9, [.int 0, .int 0, .int 5, .ref (u8 0), .ref (u8 1), .ref (u8 2), .ref (u8 3), .ref (u8 4), .ref (u8 5)])), ((u8 0), .inl (G 0, 10, .inl (fun _ => 0))), ((u8 1), .inl (G 0, 10, .inl (fun _ => 0))), ((u8 2), .inl (G 0, 10, .inl (fun _ => 0))), ((u8 3), .inl (G 0, 6, .inl (fun _ => 0))), ((u8 4), .inl (G 0, 6, .inl (fun _ => 0))), ((u8 5), .inl (G 0, 6, .inl (fun _ => 0)))]) hP hD rfl
  refine lv_aload_n hx hb dX10_init_26 rfl (lv_at hl 0 rfl) ?_
  refine va_new (ci := 9) (fs := [.int 0, .int 0, .int 0, .null, .null, .null, .null, .null, .null]) (C := RX9) (T := TX9) (N := 9) hx hb hg inG9 tyX9 tyX9_ok hown (hg _ wt_147) (hg _ wt_51) (hg _ wt_4) hK.1 hP hD hS hA rfl nwX9 (Nat.le_of_ble_eq_true rfl) (Nat.le_of_ble_eq_true rfl) dX10_init_27 (fun q9 H hP hD hS => ?_)
  obtain ⟨hP, hD⟩ := va_rls (ws' := [(h0, .inr (10, [.ref q1, .ref q5, .null, .null, .null, .null, .null, .null, .null, .null, .null, .null, .int 0, .int 0])), (q1, .inr (5, [.ref (u4 0), .ref (u4 1), .int 0, .int 0, .int 0, .int 0, .int 0, .int 0, .int 0, .int 0, .int 0, .int 0])), ((u4 0), .inr (7, [.int 0, .ref (u4 2)])), ((u4 2), .inl (G 0, 320, .inl (fun _ => 0))), ((u4 1), .inr (9, [.int 0, .int 0, .int 5, .ref (u4 3), .ref (u4 4), .ref (u4 5), .ref (u4 6), .ref (u4 7), .ref (u4 8)])), ((u4 3), .inl (G 0, 10, .inl (fun _ => 0))), ((u4 4), .inl (G 0, 10, .inl (fun _ => 0))), ((u4 5), .inl (G 0, 10, .inl (fun _ => 0))), ((u4 6), .inl (G 0, 6, .inl (fun _ => 0))), ((u4 7), .inl (G 0, 6, .inl (fun _ => 0))), ((u4 8), .inl (G 0, 6, .inl (fun _ => 0))), (q5, .inr (9, [.int 0, .int 0, .int 5, .ref (u8 0), .ref (u8 1), .ref (u8 2), .ref (u8 3), .ref (u8 4), .ref (u8 5)])), ((u8 0), .inl (G 0, 10, .inl (fun _ => 0))), ((u8 1), .inl (G 0, 10, .inl (fun _ => 0))), ((u8 2), .inl (G 0, 10, .inl (fun _ => 0))), ((u8 3), .inl (G 0, 6, .inl (fun _ => 0))), ((u8 4), .inl (G 0, 6, .inl (fun _ => 0))), ((u8 5), .inl (G 0, 6, .inl (fun _ => 0))), (q9, .inr (9, [.int 0, .int 0, .int 0, .null, .null, .null, .null, .null, .null]))]) hP hD rfl
  refine W.widen (k := 18) (n := 457) (Nat.le_of_ble_eq_true rfl) (Nat.le_of_ble_eq_true rfl) ?_
  refine lv_dup hx hb dX10_init_30 rfl ?_
  obtain ⟨hPc, hDc, hFc⟩ := va_sub3 (ws' := [(q9, .inr (9, [.int 0, .int 0, .int 0, .null, .null, .null, .null, .null, .null]))]) hP hD hS hA [18] (by decide +kernel) rfl
  refine va_callv (va_runIN (As := []) (rest := [.ref q9, .ref h0]) ⟨hx, hb, hml, hown, hg⟩ (c_X9_init l dC dI G _ q9) (kwIN hg hK mfX9_init wn_148 ⟨Nat.le_of_ble_eq_true rfl, Nat.le_of_ble_eq_true rfl⟩) (preSW hK hPc hDc) rfl rfl hl.1 rfl (lv_room (Nat.le_of_ble_eq_true rfl)) dX10_init_31 ⟨Nat.le_of_ble_eq_true rfl, Nat.le_of_ble_eq_true rfl⟩) hS (fun q _ h => hFc q h) hFc (fun ur10 t H1 locs ht hvm w11 hB hz1 hk1 hS => ?_)
  obtain ⟨u12, rfl⟩ : ∃ z, z = ur10 := ⟨_, rfl⟩
  obtain ⟨hP1, hD1⟩ := hB
  rw [ht] at hP1
  obtain ⟨hP, hD⟩ := va_join (wr := [(h0, .inr (10, [.ref q1, .ref q5, .null, .null, .null, .null, .null, .null, .null, .null, .null, .null, .int 0, .int 0])), (q1, .inr (5, [.ref (u4 0), .ref (u4 1), .int 0, .int 0, .int 0, .int 0, .int 0, .int 0, .int 0, .int 0, .int 0, .int 0])), ((u4 0), .inr (7, [.int 0, .ref (u4 2)])), ((u4 2), .inl (G 0, 320, .inl (fun _ => 0))), ((u4 1), .inr (9, [.int 0, .int 0, .int 5, .ref (u4 3), .ref (u4 4), .ref (u4 5), .ref (u4 6), .ref (u4 7), .ref (u4 8)])), ((u4 3), .inl (G 0, 10, .inl (fun _ => 0))), ((u4 4), .inl (G 0, 10, .inl (fun _ => 0))), ((u4 5), .inl (G 0, 10, .inl (fun _ => 0))), ((u4 6), .inl (G 0, 6, .inl (fun _ => 0))), ((u4 7), .inl (G 0, 6, .inl (fun _ => 0))), ((u4 8), .inl (G 0, 6, .inl (fun _ => 0))), (q5, .inr (9, [.int 0, .int 0, .int 5, .ref (u8 0), .ref (u8 1), .ref (u8 2), .ref (u8 3), .ref (u8 4), .ref (u8 5)])), ((u8 0), .inl (G 0, 10, .inl (fun _ => 0))), ((u8 1), .inl (G 0, 10, .inl (fun _ => 0))), ((u8 2), .inl (G 0, 10, .inl (fun _ => 0))), ((u8 3), .inl (G 0, 6, .inl (fun _ => 0))), ((u8 4), .inl (G 0, 6, .inl (fun _ => 0))), ((u8 5), .inl (G 0, 6, .inl (fun _ => 0)))]) (w1 := [(q9, .inr (9, [.int 0, .int 0, .int 5, .ref (u12 0), .ref (u12 1), .ref (u12 2), .ref (u12 3), .ref (u12 4), .ref (u12 5)])), ((u12 0), .inl (G 0, 10, .inl (fun _ => 0))), ((u12 1), .inl (G 0, 10, .inl (fun _ => 0))), ((u12 2), .inl (G 0, 10, .inl (fun _ => 0))), ((u12 3), .inl (G 0, 6, .inl (fun _ => 0))), ((u12 4), .inl (G 0, 6, .inl (fun _ => 0))), ((u12 5), .inl (G 0, 6, .inl (fun _ => 0)))]) hP hD [18] [0, 1, 2, 3, 4, 5, 6, 7, 8, 9, 10, 11, 12, 13, 14, 15, 16, 17] rfl rfl (by decide +kernel) (by decide +kernel) hk1 hFc hP1 hD1
  generalize H1 = H at hP hS ⊢
  obtain ⟨hP, hD⟩ := va_rls (ws' := [(h0, .inr (10, [.ref q1, .ref q5, .null, .null, .null, .null, .null, .null, .null, .null, .null, .null, .int 0, .int 0])), (q1, .inr (5, [.ref (u4 0), .ref (u4 1), .int 0, .int 0, .int 0, .int 0, .int 0, .int 0, .int 0, .int 0, .int 0, .int 0])), ((u4 0), .inr (7, [.int 0, .ref (u4 2)])), ((u4 2), .inl (G 0, 320, .inl (fun _ => 0))), ((u4 1), .inr (9, [.int 0, .int 0, .int 5, .ref (u4 3), .ref (u4 4), .ref (u4 5), .ref (u4 6), .ref (u4 7), .ref (u4 8)])), ((u4 3), .inl (G 0, 10, .inl (fun _ => 0))), ((u4 4), .inl (G 0, 10, .inl (fun _ => 0))), ((u4 5), .inl (G 0, 10, .inl (fun _ => 0))), ((u4 6), .inl (G 0, 6, .inl (fun _ => 0))), ((u4 7), .inl (G 0, 6, .inl (fun _ => 0))), ((u4 8), .inl (G 0, 6, .inl (fun _ => 0))), (q5, .inr (9, [.int 0, .int 0, .int 5, .ref (u8 0), .ref (u8 1), .ref (u8 2), .ref (u8 3), .ref (u8 4), .ref (u8 5)])), ((u8 0), .inl (G 0, 10, .inl (fun _ => 0))), ((u8 1), .inl (G 0, 10, .inl (fun _ => 0))), ((u8 2), .inl (G 0, 10, .inl (fun _ => 0))), ((u8 3), .inl (G 0, 6, .inl (fun _ => 0))), ((u8 4), .inl (G 0, 6, .inl (fun _ => 0))), ((u8 5), .inl (G 0, 6, .inl (fun _ => 0))), (q9, .inr (9, [.int 0, .int 0, .int 5, .ref (u12 0), .ref (u12 1), .ref (u12 2), .ref (u12 3), .ref (u12 4), .ref (u12 5)])), ((u12 0), .inl (G 0, 10, .inl (fun _ => 0))), ((u12 1), .inl (G 0, 10, .inl (fun _ => 0))), ((u12 2), .inl (G 0, 10, .inl (fun _ => 0))), ((u12 3), .inl (G 0, 6, .inl (fun _ => 0))), ((u12 4), .inl (G 0, 6, .inl (fun _ => 0))), ((u12 5), .inl (G 0, 6, .inl (fun _ => 0)))]) hP hD rfl
  refine W.widen (k := 24) (n := 505) (Nat.le_of_ble_eq_true rfl) (Nat.le_of_ble_eq_true rfl) ?_
  refine va_putF (D := (dC, dI)) (ci := 10) (v := .ref q9) (ty := (.object "AsleepPass$Way")) (C := RX10) (T := TX10) (N := 14) hx hb hg inG10 tyX10 tyX10_ok nmX10 hown hK.1 hP hD hS 0 rfl rfl 2 (Nat.le_of_ble_eq_true rfl) (hg _ wt_304) (fun _ h9 => h9) rfl hin rfl (by decide +kernel) rfl rfl (Nat.le_of_ble_eq_true rfl) dX10_init_34 (fun H locs hP hD hS => ?_)
  obtain ⟨hP, hD⟩ := va_rls (ws' := [(h0, .inr (10, [.ref q1, .ref q5, .ref q9, .null, .null, .null, .null, .null, .null, .null, .null, .null, .int 0, .int 0])), (q1, .inr (5, [.ref (u4 0), .ref (u4 1), .int 0, .int 0, .int 0, .int 0, .int 0, .int 0, .int 0, .int 0, .int 0, .int 0])), ((u4 0), .inr (7, [.int 0, .ref (u4 2)])), ((u4 2), .inl (G 0, 320, .inl (fun _ => 0))), ((u4 1), .inr (9, [.int 0, .int 0, .int 5, .ref (u4 3), .ref (u4 4), .ref (u4 5), .ref (u4 6), .ref (u4 7), .ref (u4 8)])), ((u4 3), .inl (G 0, 10, .inl (fun _ => 0))), ((u4 4), .inl (G 0, 10, .inl (fun _ => 0))), ((u4 5), .inl (G 0, 10, .inl (fun _ => 0))), ((u4 6), .inl (G 0, 6, .inl (fun _ => 0))), ((u4 7), .inl (G 0, 6, .inl (fun _ => 0))), ((u4 8), .inl (G 0, 6, .inl (fun _ => 0))), (q5, .inr (9, [.int 0, .int 0, .int 5, .ref (u8 0), .ref (u8 1), .ref (u8 2), .ref (u8 3), .ref (u8 4), .ref (u8 5)])), ((u8 0), .inl (G 0, 10, .inl (fun _ => 0))), ((u8 1), .inl (G 0, 10, .inl (fun _ => 0))), ((u8 2), .inl (G 0, 10, .inl (fun _ => 0))), ((u8 3), .inl (G 0, 6, .inl (fun _ => 0))), ((u8 4), .inl (G 0, 6, .inl (fun _ => 0))), ((u8 5), .inl (G 0, 6, .inl (fun _ => 0))), (q9, .inr (9, [.int 0, .int 0, .int 5, .ref (u12 0), .ref (u12 1), .ref (u12 2), .ref (u12 3), .ref (u12 4), .ref (u12 5)])), ((u12 0), .inl (G 0, 10, .inl (fun _ => 0))), ((u12 1), .inl (G 0, 10, .inl (fun _ => 0))), ((u12 2), .inl (G 0, 10, .inl (fun _ => 0))), ((u12 3), .inl (G 0, 6, .inl (fun _ => 0))), ((u12 4), .inl (G 0, 6, .inl (fun _ => 0))), ((u12 5), .inl (G 0, 6, .inl (fun _ => 0)))]) hP hD rfl
  refine lv_aload_n hx hb dX10_init_37 rfl (lv_at hl 0 rfl) ?_
  refine lv_iconst (v := 2) hx hb dX10_init_38 rfl ?_
  refine va_newq (N' := 2) hx hb hown (hg _ wt_147) hK.2.2.1 hK.1 hP hD hS hA (by decide) (by decide) (by decide) (Nat.le_of_ble_eq_true rfl) (Nat.le_of_ble_eq_true rfl) dX10_init_39 (fun q13 cA H hK9 hP hD hS => ?_)
  obtain rfl := uniA hK9 3 rfl
  obtain ⟨hP, hD⟩ := va_rls (ws' := [(h0, .inr (10, [.ref q1, .ref q5, .ref q9, .null, .null, .null, .null, .null, .null, .null, .null, .null, .int 0, .int 0])), (q1, .inr (5, [.ref (u4 0), .ref (u4 1), .int 0, .int 0, .int 0, .int 0, .int 0, .int 0, .int 0, .int 0, .int 0, .int 0])), ((u4 0), .inr (7, [.int 0, .ref (u4 2)])), ((u4 2), .inl (G 0, 320, .inl (fun _ => 0))), ((u4 1), .inr (9, [.int 0, .int 0, .int 5, .ref (u4 3), .ref (u4 4), .ref (u4 5), .ref (u4 6), .ref (u4 7), .ref (u4 8)])), ((u4 3), .inl (G 0, 10, .inl (fun _ => 0))), ((u4 4), .inl (G 0, 10, .inl (fun _ => 0))), ((u4 5), .inl (G 0, 10, .inl (fun _ => 0))), ((u4 6), .inl (G 0, 6, .inl (fun _ => 0))), ((u4 7), .inl (G 0, 6, .inl (fun _ => 0))), ((u4 8), .inl (G 0, 6, .inl (fun _ => 0))), (q5, .inr (9, [.int 0, .int 0, .int 5, .ref (u8 0), .ref (u8 1), .ref (u8 2), .ref (u8 3), .ref (u8 4), .ref (u8 5)])), ((u8 0), .inl (G 0, 10, .inl (fun _ => 0))), ((u8 1), .inl (G 0, 10, .inl (fun _ => 0))), ((u8 2), .inl (G 0, 10, .inl (fun _ => 0))), ((u8 3), .inl (G 0, 6, .inl (fun _ => 0))), ((u8 4), .inl (G 0, 6, .inl (fun _ => 0))), ((u8 5), .inl (G 0, 6, .inl (fun _ => 0))), (q9, .inr (9, [.int 0, .int 0, .int 5, .ref (u12 0), .ref (u12 1), .ref (u12 2), .ref (u12 3), .ref (u12 4), .ref (u12 5)])), ((u12 0), .inl (G 0, 10, .inl (fun _ => 0))), ((u12 1), .inl (G 0, 10, .inl (fun _ => 0))), ((u12 2), .inl (G 0, 10, .inl (fun _ => 0))), ((u12 3), .inl (G 0, 6, .inl (fun _ => 0))), ((u12 4), .inl (G 0, 6, .inl (fun _ => 0))), ((u12 5), .inl (G 0, 6, .inl (fun _ => 0))), (q13, .inl (G 3, 2, .inr (.inr (.inr (.inr (fun _ => none))))))]) hP hD rfl
  refine W.widen (k := 25) (n := 507) (Nat.le_of_ble_eq_true rfl) (Nat.le_of_ble_eq_true rfl) ?_
  refine va_putF (D := (dC, dI)) (ci := 10) (v := .ref q13) (ty := (.array (.object "AsleepPass$Way"))) (C := RX10) (T := TX10) (N := 14) hx hb hg inG10 tyX10 tyX10_ok nmX10 hown hK.1 hP hD hS 0 rfl rfl 3 (Nat.le_of_ble_eq_true rfl) (hg _ wt_305) (fun _ h9 => h9) rfl hin rfl (by decide +kernel) rfl rfl (Nat.le_of_ble_eq_true rfl) dX10_init_42 (fun H locs hP hD hS => ?_)
  obtain ⟨hP, hD⟩ := va_rls (ws' := [(h0, .inr (10, [.ref q1, .ref q5, .ref q9, .ref q13, .null, .null, .null, .null, .null, .null, .null, .null, .int 0, .int 0])), (q1, .inr (5, [.ref (u4 0), .ref (u4 1), .int 0, .int 0, .int 0, .int 0, .int 0, .int 0, .int 0, .int 0, .int 0, .int 0])), ((u4 0), .inr (7, [.int 0, .ref (u4 2)])), ((u4 2), .inl (G 0, 320, .inl (fun _ => 0))), ((u4 1), .inr (9, [.int 0, .int 0, .int 5, .ref (u4 3), .ref (u4 4), .ref (u4 5), .ref (u4 6), .ref (u4 7), .ref (u4 8)])), ((u4 3), .inl (G 0, 10, .inl (fun _ => 0))), ((u4 4), .inl (G 0, 10, .inl (fun _ => 0))), ((u4 5), .inl (G 0, 10, .inl (fun _ => 0))), ((u4 6), .inl (G 0, 6, .inl (fun _ => 0))), ((u4 7), .inl (G 0, 6, .inl (fun _ => 0))), ((u4 8), .inl (G 0, 6, .inl (fun _ => 0))), (q5, .inr (9, [.int 0, .int 0, .int 5, .ref (u8 0), .ref (u8 1), .ref (u8 2), .ref (u8 3), .ref (u8 4), .ref (u8 5)])), ((u8 0), .inl (G 0, 10, .inl (fun _ => 0))), ((u8 1), .inl (G 0, 10, .inl (fun _ => 0))), ((u8 2), .inl (G 0, 10, .inl (fun _ => 0))), ((u8 3), .inl (G 0, 6, .inl (fun _ => 0))), ((u8 4), .inl (G 0, 6, .inl (fun _ => 0))), ((u8 5), .inl (G 0, 6, .inl (fun _ => 0))), (q9, .inr (9, [.int 0, .int 0, .int 5, .ref (u12 0), .ref (u12 1), .ref (u12 2), .ref (u12 3), .ref (u12 4), .ref (u12 5)])), ((u12 0), .inl (G 0, 10, .inl (fun _ => 0))), ((u12 1), .inl (G 0, 10, .inl (fun _ => 0))), ((u12 2), .inl (G 0, 10, .inl (fun _ => 0))), ((u12 3), .inl (G 0, 6, .inl (fun _ => 0))), ((u12 4), .inl (G 0, 6, .inl (fun _ => 0))), ((u12 5), .inl (G 0, 6, .inl (fun _ => 0))), (q13, .inl (G 3, 2, .inr (.inr (.inr (.inr (fun _ => none))))))]) hP hD rfl
  refine lv_iconst (v := 0) hx hb dX10_init_45 rfl ?_
  refine lv_istore_n (lv' := [(1, .int 0), (0, .ref h0)]) hx hb dX10_init_46 rfl hl (by decide) rfl (fun ls hl => ?_)
  refine lv_iload_n hx hb dX10_init_47 rfl (lv_at hl 0 rfl) ?_
  refine lv_iconst (v := 2) hx hb dX10_init_48 rfl ?_
  refine lv_icmp_ge (tgt := 71) hx hb dX10_init_49 rfl (fun c14 => ?_) (fun c14 => ?_)
  · skip
    exact absurd c14 (by decide)
  · skip
    refine lv_aload_n hx hb dX10_init_52 rfl (lv_at hl 1 rfl) ?_
    refine va_get (D := (dC, dI)) (ci := 10) (v := .ref q13) (C := RX10) (T := TX10) (N := 14) hx hb hg inG10 hown hK.1 hP 0 rfl rfl 3 (Nat.le_of_ble_eq_true rfl) (hg _ wt_305) (fun _ h9 => h9) rfl dX10_init_53 ?_
    refine lv_iload_n hx hb dX10_init_56 rfl (lv_at hl 0 rfl) ?_
    refine va_new (ci := 9) (fs := [.int 0, .int 0, .int 0, .null, .null, .null, .null, .null, .null]) (C := RX9) (T := TX9) (N := 9) hx hb hg inG9 tyX9 tyX9_ok hown (hg _ wt_147) (hg _ wt_51) (hg _ wt_4) hK.1 hP hD hS hA rfl nwX9 (Nat.le_of_ble_eq_true rfl) (Nat.le_of_ble_eq_true rfl) dX10_init_57 (fun q15 H hP hD hS => ?_)
    obtain ⟨hP, hD⟩ := va_rls (ws' := [(h0, .inr (10, [.ref q1, .ref q5, .ref q9, .ref q13, .null, .null, .null, .null, .null, .null, .null, .null, .int 0, .int 0])), (q1, .inr (5, [.ref (u4 0), .ref (u4 1), .int 0, .int 0, .int 0, .int 0, .int 0, .int 0, .int 0, .int 0, .int 0, .int 0])), ((u4 0), .inr (7, [.int 0, .ref (u4 2)])), ((u4 2), .inl (G 0, 320, .inl (fun _ => 0))), ((u4 1), .inr (9, [.int 0, .int 0, .int 5, .ref (u4 3), .ref (u4 4), .ref (u4 5), .ref (u4 6), .ref (u4 7), .ref (u4 8)])), ((u4 3), .inl (G 0, 10, .inl (fun _ => 0))), ((u4 4), .inl (G 0, 10, .inl (fun _ => 0))), ((u4 5), .inl (G 0, 10, .inl (fun _ => 0))), ((u4 6), .inl (G 0, 6, .inl (fun _ => 0))), ((u4 7), .inl (G 0, 6, .inl (fun _ => 0))), ((u4 8), .inl (G 0, 6, .inl (fun _ => 0))), (q5, .inr (9, [.int 0, .int 0, .int 5, .ref (u8 0), .ref (u8 1), .ref (u8 2), .ref (u8 3), .ref (u8 4), .ref (u8 5)])), ((u8 0), .inl (G 0, 10, .inl (fun _ => 0))), ((u8 1), .inl (G 0, 10, .inl (fun _ => 0))), ((u8 2), .inl (G 0, 10, .inl (fun _ => 0))), ((u8 3), .inl (G 0, 6, .inl (fun _ => 0))), ((u8 4), .inl (G 0, 6, .inl (fun _ => 0))), ((u8 5), .inl (G 0, 6, .inl (fun _ => 0))), (q9, .inr (9, [.int 0, .int 0, .int 5, .ref (u12 0), .ref (u12 1), .ref (u12 2), .ref (u12 3), .ref (u12 4), .ref (u12 5)])), ((u12 0), .inl (G 0, 10, .inl (fun _ => 0))), ((u12 1), .inl (G 0, 10, .inl (fun _ => 0))), ((u12 2), .inl (G 0, 10, .inl (fun _ => 0))), ((u12 3), .inl (G 0, 6, .inl (fun _ => 0))), ((u12 4), .inl (G 0, 6, .inl (fun _ => 0))), ((u12 5), .inl (G 0, 6, .inl (fun _ => 0))), (q13, .inl (G 3, 2, .inr (.inr (.inr (.inr (fun _ => none)))))), (q15, .inr (9, [.int 0, .int 0, .int 0, .null, .null, .null, .null, .null, .null]))]) hP hD rfl
    refine W.widen (k := 26) (n := 516) (Nat.le_of_ble_eq_true rfl) (Nat.le_of_ble_eq_true rfl) ?_
    refine lv_dup hx hb dX10_init_60 rfl ?_
    obtain ⟨hPc, hDc, hFc⟩ := va_sub3 (ws' := [(q15, .inr (9, [.int 0, .int 0, .int 0, .null, .null, .null, .null, .null, .null]))]) hP hD hS hA [26] (by decide +kernel) rfl
    refine va_callv (va_runIN (As := []) (rest := [.ref q15, .int 0, .ref q13]) ⟨hx, hb, hml, hown, hg⟩ (c_X9_init l dC dI G _ q15) (kwIN hg hK mfX9_init wn_148 ⟨Nat.le_of_ble_eq_true rfl, Nat.le_of_ble_eq_true rfl⟩) (preSW hK hPc hDc) rfl rfl hl.1 rfl (lv_room (Nat.le_of_ble_eq_true rfl)) dX10_init_61 ⟨Nat.le_of_ble_eq_true rfl, Nat.le_of_ble_eq_true rfl⟩) hS (fun q _ h => hFc q h) hFc (fun ur16 t H1 locs ht hvm w17 hB hz1 hk1 hS => ?_)
    obtain ⟨u18, rfl⟩ : ∃ z, z = ur16 := ⟨_, rfl⟩
    obtain ⟨hP1, hD1⟩ := hB
    rw [ht] at hP1
    obtain ⟨hP, hD⟩ := va_join (wr := [(h0, .inr (10, [.ref q1, .ref q5, .ref q9, .ref q13, .null, .null, .null, .null, .null, .null, .null, .null, .int 0, .int 0])), (q1, .inr (5, [.ref (u4 0), .ref (u4 1), .int 0, .int 0, .int 0, .int 0, .int 0, .int 0, .int 0, .int 0, .int 0, .int 0])), ((u4 0), .inr (7, [.int 0, .ref (u4 2)])), ((u4 2), .inl (G 0, 320, .inl (fun _ => 0))), ((u4 1), .inr (9, [.int 0, .int 0, .int 5, .ref (u4 3), .ref (u4 4), .ref (u4 5), .ref (u4 6), .ref (u4 7), .ref (u4 8)])), ((u4 3), .inl (G 0, 10, .inl (fun _ => 0))), ((u4 4), .inl (G 0, 10, .inl (fun _ => 0))), ((u4 5), .inl (G 0, 10, .inl (fun _ => 0))), ((u4 6), .inl (G 0, 6, .inl (fun _ => 0))), ((u4 7), .inl (G 0, 6, .inl (fun _ => 0))), ((u4 8), .inl (G 0, 6, .inl (fun _ => 0))), (q5, .inr (9, [.int 0, .int 0, .int 5, .ref (u8 0), .ref (u8 1), .ref (u8 2), .ref (u8 3), .ref (u8 4), .ref (u8 5)])), ((u8 0), .inl (G 0, 10, .inl (fun _ => 0))), ((u8 1), .inl (G 0, 10, .inl (fun _ => 0))), ((u8 2), .inl (G 0, 10, .inl (fun _ => 0))), ((u8 3), .inl (G 0, 6, .inl (fun _ => 0))), ((u8 4), .inl (G 0, 6, .inl (fun _ => 0))), ((u8 5), .inl (G 0, 6, .inl (fun _ => 0))), (q9, .inr (9, [.int 0, .int 0, .int 5, .ref (u12 0), .ref (u12 1), .ref (u12 2), .ref (u12 3), .ref (u12 4), .ref (u12 5)])), ((u12 0), .inl (G 0, 10, .inl (fun _ => 0))), ((u12 1), .inl (G 0, 10, .inl (fun _ => 0))), ((u12 2), .inl (G 0, 10, .inl (fun _ => 0))), ((u12 3), .inl (G 0, 6, .inl (fun _ => 0))), ((u12 4), .inl (G 0, 6, .inl (fun _ => 0))), ((u12 5), .inl (G 0, 6, .inl (fun _ => 0))), (q13, .inl (G 3, 2, .inr (.inr (.inr (.inr (fun _ => none))))))]) (w1 := [(q15, .inr (9, [.int 0, .int 0, .int 5, .ref (u18 0), .ref (u18 1), .ref (u18 2), .ref (u18 3), .ref (u18 4), .ref (u18 5)])), ((u18 0), .inl (G 0, 10, .inl (fun _ => 0))), ((u18 1), .inl (G 0, 10, .inl (fun _ => 0))), ((u18 2), .inl (G 0, 10, .inl (fun _ => 0))), ((u18 3), .inl (G 0, 6, .inl (fun _ => 0))), ((u18 4), .inl (G 0, 6, .inl (fun _ => 0))), ((u18 5), .inl (G 0, 6, .inl (fun _ => 0)))]) hP hD [26] [0, 1, 2, 3, 4, 5, 6, 7, 8, 9, 10, 11, 12, 13, 14, 15, 16, 17, 18, 19, 20, 21, 22, 23, 24, 25] rfl rfl (by decide +kernel) (by decide +kernel) hk1 hFc hP1 hD1
    generalize H1 = H at hP hS ⊢
    obtain ⟨hP, hD⟩ := va_rls (ws' := [(h0, .inr (10, [.ref q1, .ref q5, .ref q9, .ref q13, .null, .null, .null, .null, .null, .null, .null, .null, .int 0, .int 0])), (q1, .inr (5, [.ref (u4 0), .ref (u4 1), .int 0, .int 0, .int 0, .int 0, .int 0, .int 0, .int 0, .int 0, .int 0, .int 0])), ((u4 0), .inr (7, [.int 0, .ref (u4 2)])), ((u4 2), .inl (G 0, 320, .inl (fun _ => 0))), ((u4 1), .inr (9, [.int 0, .int 0, .int 5, .ref (u4 3), .ref (u4 4), .ref (u4 5), .ref (u4 6), .ref (u4 7), .ref (u4 8)])), ((u4 3), .inl (G 0, 10, .inl (fun _ => 0))), ((u4 4), .inl (G 0, 10, .inl (fun _ => 0))), ((u4 5), .inl (G 0, 10, .inl (fun _ => 0))), ((u4 6), .inl (G 0, 6, .inl (fun _ => 0))), ((u4 7), .inl (G 0, 6, .inl (fun _ => 0))), ((u4 8), .inl (G 0, 6, .inl (fun _ => 0))), (q5, .inr (9, [.int 0, .int 0, .int 5, .ref (u8 0), .ref (u8 1), .ref (u8 2), .ref (u8 3), .ref (u8 4), .ref (u8 5)])), ((u8 0), .inl (G 0, 10, .inl (fun _ => 0))), ((u8 1), .inl (G 0, 10, .inl (fun _ => 0))), ((u8 2), .inl (G 0, 10, .inl (fun _ => 0))), ((u8 3), .inl (G 0, 6, .inl (fun _ => 0))), ((u8 4), .inl (G 0, 6, .inl (fun _ => 0))), ((u8 5), .inl (G 0, 6, .inl (fun _ => 0))), (q9, .inr (9, [.int 0, .int 0, .int 5, .ref (u12 0), .ref (u12 1), .ref (u12 2), .ref (u12 3), .ref (u12 4), .ref (u12 5)])), ((u12 0), .inl (G 0, 10, .inl (fun _ => 0))), ((u12 1), .inl (G 0, 10, .inl (fun _ => 0))), ((u12 2), .inl (G 0, 10, .inl (fun _ => 0))), ((u12 3), .inl (G 0, 6, .inl (fun _ => 0))), ((u12 4), .inl (G 0, 6, .inl (fun _ => 0))), ((u12 5), .inl (G 0, 6, .inl (fun _ => 0))), (q13, .inl (G 3, 2, .inr (.inr (.inr (.inr (fun _ => none)))))), (q15, .inr (9, [.int 0, .int 0, .int 5, .ref (u18 0), .ref (u18 1), .ref (u18 2), .ref (u18 3), .ref (u18 4), .ref (u18 5)])), ((u18 0), .inl (G 0, 10, .inl (fun _ => 0))), ((u18 1), .inl (G 0, 10, .inl (fun _ => 0))), ((u18 2), .inl (G 0, 10, .inl (fun _ => 0))), ((u18 3), .inl (G 0, 6, .inl (fun _ => 0))), ((u18 4), .inl (G 0, 6, .inl (fun _ => 0))), ((u18 5), .inl (G 0, 6, .inl (fun _ => 0)))]) hP hD rfl
    refine W.widen (k := 32) (n := 564) (Nat.le_of_ble_eq_true rfl) (Nat.le_of_ble_eq_true rfl) ?_
    refine va_astq hx hb hK.1 hP hD hS 25 3 26 9 rfl rfl rfl rfl (vp_in_iff.mpr ⟨by decide, by decide⟩) dX10_init_64 (fun H locs hP hD hS => ?_)
    obtain ⟨hP, hD⟩ := va_rls (ws' := [(h0, .inr (10, [.ref q1, .ref q5, .ref q9, .ref q13, .null, .null, .null, .null, .null, .null, .null, .null, .int 0, .int 0])), (q1, .inr (5, [.ref (u4 0), .ref (u4 1), .int 0, .int 0, .int 0, .int 0, .int 0, .int 0, .int 0, .int 0, .int 0, .int 0])), ((u4 0), .inr (7, [.int 0, .ref (u4 2)])), ((u4 2), .inl (G 0, 320, .inl (fun _ => 0))), ((u4 1), .inr (9, [.int 0, .int 0, .int 5, .ref (u4 3), .ref (u4 4), .ref (u4 5), .ref (u4 6), .ref (u4 7), .ref (u4 8)])), ((u4 3), .inl (G 0, 10, .inl (fun _ => 0))), ((u4 4), .inl (G 0, 10, .inl (fun _ => 0))), ((u4 5), .inl (G 0, 10, .inl (fun _ => 0))), ((u4 6), .inl (G 0, 6, .inl (fun _ => 0))), ((u4 7), .inl (G 0, 6, .inl (fun _ => 0))), ((u4 8), .inl (G 0, 6, .inl (fun _ => 0))), (q5, .inr (9, [.int 0, .int 0, .int 5, .ref (u8 0), .ref (u8 1), .ref (u8 2), .ref (u8 3), .ref (u8 4), .ref (u8 5)])), ((u8 0), .inl (G 0, 10, .inl (fun _ => 0))), ((u8 1), .inl (G 0, 10, .inl (fun _ => 0))), ((u8 2), .inl (G 0, 10, .inl (fun _ => 0))), ((u8 3), .inl (G 0, 6, .inl (fun _ => 0))), ((u8 4), .inl (G 0, 6, .inl (fun _ => 0))), ((u8 5), .inl (G 0, 6, .inl (fun _ => 0))), (q9, .inr (9, [.int 0, .int 0, .int 5, .ref (u12 0), .ref (u12 1), .ref (u12 2), .ref (u12 3), .ref (u12 4), .ref (u12 5)])), ((u12 0), .inl (G 0, 10, .inl (fun _ => 0))), ((u12 1), .inl (G 0, 10, .inl (fun _ => 0))), ((u12 2), .inl (G 0, 10, .inl (fun _ => 0))), ((u12 3), .inl (G 0, 6, .inl (fun _ => 0))), ((u12 4), .inl (G 0, 6, .inl (fun _ => 0))), ((u12 5), .inl (G 0, 6, .inl (fun _ => 0))), (q13, .inl (G 3, 2, .inr (.inr (.inr (.inr (va_up (fun _ => none) 0 (some q15))))))), (q15, .inr (9, [.int 0, .int 0, .int 5, .ref (u18 0), .ref (u18 1), .ref (u18 2), .ref (u18 3), .ref (u18 4), .ref (u18 5)])), ((u18 0), .inl (G 0, 10, .inl (fun _ => 0))), ((u18 1), .inl (G 0, 10, .inl (fun _ => 0))), ((u18 2), .inl (G 0, 10, .inl (fun _ => 0))), ((u18 3), .inl (G 0, 6, .inl (fun _ => 0))), ((u18 4), .inl (G 0, 6, .inl (fun _ => 0))), ((u18 5), .inl (G 0, 6, .inl (fun _ => 0)))]) hP hD rfl
    refine lv_iinc (v := 1) (lv' := [(1, .int 1), (0, .ref h0)]) hx hb dX10_init_65 hl (k := 0) rfl (by decide) (by decide) rfl (fun ls hl => ?_)
    refine lv_goto (tgt := 47) hx hb dX10_init_68 rfl ?_
    refine lv_iload_n hx hb dX10_init_47 rfl (lv_at hl 0 rfl) ?_
    refine lv_iconst (v := 2) hx hb dX10_init_48 rfl ?_
    refine lv_icmp_ge (tgt := 71) hx hb dX10_init_49 rfl (fun c19 => ?_) (fun c19 => ?_)
    · skip
      exact absurd c19 (by decide)
    · skip
      refine lv_aload_n hx hb dX10_init_52 rfl (lv_at hl 1 rfl) ?_
      refine va_get (D := (dC, dI)) (ci := 10) (v := .ref q13) (C := RX10) (T := TX10) (N := 14) hx hb hg inG10 hown hK.1 hP 0 rfl rfl 3 (Nat.le_of_ble_eq_true rfl) (hg _ wt_305) (fun _ h9 => h9) rfl dX10_init_53 ?_
      refine lv_iload_n hx hb dX10_init_56 rfl (lv_at hl 0 rfl) ?_
      refine va_new (ci := 9) (fs := [.int 0, .int 0, .int 0, .null, .null, .null, .null, .null, .null]) (C := RX9) (T := TX9) (N := 9) hx hb hg inG9 tyX9 tyX9_ok hown (hg _ wt_147) (hg _ wt_51) (hg _ wt_4) hK.1 hP hD hS hA rfl nwX9 (Nat.le_of_ble_eq_true rfl) (Nat.le_of_ble_eq_true rfl) dX10_init_57 (fun q20 H hP hD hS => ?_)
      obtain ⟨hP, hD⟩ := va_rls (ws' := [(h0, .inr (10, [.ref q1, .ref q5, .ref q9, .ref q13, .null, .null, .null, .null, .null, .null, .null, .null, .int 0, .int 0])), (q1, .inr (5, [.ref (u4 0), .ref (u4 1), .int 0, .int 0, .int 0, .int 0, .int 0, .int 0, .int 0, .int 0, .int 0, .int 0])), ((u4 0), .inr (7, [.int 0, .ref (u4 2)])), ((u4 2), .inl (G 0, 320, .inl (fun _ => 0))), ((u4 1), .inr (9, [.int 0, .int 0, .int 5, .ref (u4 3), .ref (u4 4), .ref (u4 5), .ref (u4 6), .ref (u4 7), .ref (u4 8)])), ((u4 3), .inl (G 0, 10, .inl (fun _ => 0))), ((u4 4), .inl (G 0, 10, .inl (fun _ => 0))), ((u4 5), .inl (G 0, 10, .inl (fun _ => 0))), ((u4 6), .inl (G 0, 6, .inl (fun _ => 0))), ((u4 7), .inl (G 0, 6, .inl (fun _ => 0))), ((u4 8), .inl (G 0, 6, .inl (fun _ => 0))), (q5, .inr (9, [.int 0, .int 0, .int 5, .ref (u8 0), .ref (u8 1), .ref (u8 2), .ref (u8 3), .ref (u8 4), .ref (u8 5)])), ((u8 0), .inl (G 0, 10, .inl (fun _ => 0))), ((u8 1), .inl (G 0, 10, .inl (fun _ => 0))), ((u8 2), .inl (G 0, 10, .inl (fun _ => 0))), ((u8 3), .inl (G 0, 6, .inl (fun _ => 0))), ((u8 4), .inl (G 0, 6, .inl (fun _ => 0))), ((u8 5), .inl (G 0, 6, .inl (fun _ => 0))), (q9, .inr (9, [.int 0, .int 0, .int 5, .ref (u12 0), .ref (u12 1), .ref (u12 2), .ref (u12 3), .ref (u12 4), .ref (u12 5)])), ((u12 0), .inl (G 0, 10, .inl (fun _ => 0))), ((u12 1), .inl (G 0, 10, .inl (fun _ => 0))), ((u12 2), .inl (G 0, 10, .inl (fun _ => 0))), ((u12 3), .inl (G 0, 6, .inl (fun _ => 0))), ((u12 4), .inl (G 0, 6, .inl (fun _ => 0))), ((u12 5), .inl (G 0, 6, .inl (fun _ => 0))), (q13, .inl (G 3, 2, .inr (.inr (.inr (.inr (va_up (fun _ => none) 0 (some q15))))))), (q15, .inr (9, [.int 0, .int 0, .int 5, .ref (u18 0), .ref (u18 1), .ref (u18 2), .ref (u18 3), .ref (u18 4), .ref (u18 5)])), ((u18 0), .inl (G 0, 10, .inl (fun _ => 0))), ((u18 1), .inl (G 0, 10, .inl (fun _ => 0))), ((u18 2), .inl (G 0, 10, .inl (fun _ => 0))), ((u18 3), .inl (G 0, 6, .inl (fun _ => 0))), ((u18 4), .inl (G 0, 6, .inl (fun _ => 0))), ((u18 5), .inl (G 0, 6, .inl (fun _ => 0))), (q20, .inr (9, [.int 0, .int 0, .int 0, .null, .null, .null, .null, .null, .null]))]) hP hD rfl
      refine W.widen (k := 33) (n := 573) (Nat.le_of_ble_eq_true rfl) (Nat.le_of_ble_eq_true rfl) ?_
      refine lv_dup hx hb dX10_init_60 rfl ?_
      obtain ⟨hPc, hDc, hFc⟩ := va_sub3 (ws' := [(q20, .inr (9, [.int 0, .int 0, .int 0, .null, .null, .null, .null, .null, .null]))]) hP hD hS hA [33] (by decide +kernel) rfl
      refine va_callv (va_runIN (As := []) (rest := [.ref q20, .int 1, .ref q13]) ⟨hx, hb, hml, hown, hg⟩ (c_X9_init l dC dI G _ q20) (kwIN hg hK mfX9_init wn_148 ⟨Nat.le_of_ble_eq_true rfl, Nat.le_of_ble_eq_true rfl⟩) (preSW hK hPc hDc) rfl rfl hl.1 rfl (lv_room (Nat.le_of_ble_eq_true rfl)) dX10_init_61 ⟨Nat.le_of_ble_eq_true rfl, Nat.le_of_ble_eq_true rfl⟩) hS (fun q _ h => hFc q h) hFc (fun ur21 t H1 locs ht hvm w22 hB hz1 hk1 hS => ?_)
      obtain ⟨u23, rfl⟩ : ∃ z, z = ur21 := ⟨_, rfl⟩
      obtain ⟨hP1, hD1⟩ := hB
      rw [ht] at hP1
      obtain ⟨hP, hD⟩ := va_join (wr := [(h0, .inr (10, [.ref q1, .ref q5, .ref q9, .ref q13, .null, .null, .null, .null, .null, .null, .null, .null, .int 0, .int 0])), (q1, .inr (5, [.ref (u4 0), .ref (u4 1), .int 0, .int 0, .int 0, .int 0, .int 0, .int 0, .int 0, .int 0, .int 0, .int 0])), ((u4 0), .inr (7, [.int 0, .ref (u4 2)])), ((u4 2), .inl (G 0, 320, .inl (fun _ => 0))), ((u4 1), .inr (9, [.int 0, .int 0, .int 5, .ref (u4 3), .ref (u4 4), .ref (u4 5), .ref (u4 6), .ref (u4 7), .ref (u4 8)])), ((u4 3), .inl (G 0, 10, .inl (fun _ => 0))), ((u4 4), .inl (G 0, 10, .inl (fun _ => 0))), ((u4 5), .inl (G 0, 10, .inl (fun _ => 0))), ((u4 6), .inl (G 0, 6, .inl (fun _ => 0))), ((u4 7), .inl (G 0, 6, .inl (fun _ => 0))), ((u4 8), .inl (G 0, 6, .inl (fun _ => 0))), (q5, .inr (9, [.int 0, .int 0, .int 5, .ref (u8 0), .ref (u8 1), .ref (u8 2), .ref (u8 3), .ref (u8 4), .ref (u8 5)])), ((u8 0), .inl (G 0, 10, .inl (fun _ => 0))), ((u8 1), .inl (G 0, 10, .inl (fun _ => 0))), ((u8 2), .inl (G 0, 10, .inl (fun _ => 0))), ((u8 3), .inl (G 0, 6, .inl (fun _ => 0))), ((u8 4), .inl (G 0, 6, .inl (fun _ => 0))), ((u8 5), .inl (G 0, 6, .inl (fun _ => 0))), (q9, .inr (9, [.int 0, .int 0, .int 5, .ref (u12 0), .ref (u12 1), .ref (u12 2), .ref (u12 3), .ref (u12 4), .ref (u12 5)])), ((u12 0), .inl (G 0, 10, .inl (fun _ => 0))), ((u12 1), .inl (G 0, 10, .inl (fun _ => 0))), ((u12 2), .inl (G 0, 10, .inl (fun _ => 0))), ((u12 3), .inl (G 0, 6, .inl (fun _ => 0))), ((u12 4), .inl (G 0, 6, .inl (fun _ => 0))), ((u12 5), .inl (G 0, 6, .inl (fun _ => 0))), (q13, .inl (G 3, 2, .inr (.inr (.inr (.inr (va_up (fun _ => none) 0 (some q15))))))), (q15, .inr (9, [.int 0, .int 0, .int 5, .ref (u18 0), .ref (u18 1), .ref (u18 2), .ref (u18 3), .ref (u18 4), .ref (u18 5)])), ((u18 0), .inl (G 0, 10, .inl (fun _ => 0))), ((u18 1), .inl (G 0, 10, .inl (fun _ => 0))), ((u18 2), .inl (G 0, 10, .inl (fun _ => 0))), ((u18 3), .inl (G 0, 6, .inl (fun _ => 0))), ((u18 4), .inl (G 0, 6, .inl (fun _ => 0))), ((u18 5), .inl (G 0, 6, .inl (fun _ => 0)))]) (w1 := [(q20, .inr (9, [.int 0, .int 0, .int 5, .ref (u23 0), .ref (u23 1), .ref (u23 2), .ref (u23 3), .ref (u23 4), .ref (u23 5)])), ((u23 0), .inl (G 0, 10, .inl (fun _ => 0))), ((u23 1), .inl (G 0, 10, .inl (fun _ => 0))), ((u23 2), .inl (G 0, 10, .inl (fun _ => 0))), ((u23 3), .inl (G 0, 6, .inl (fun _ => 0))), ((u23 4), .inl (G 0, 6, .inl (fun _ => 0))), ((u23 5), .inl (G 0, 6, .inl (fun _ => 0)))]) hP hD [33] [0, 1, 2, 3, 4, 5, 6, 7, 8, 9, 10, 11, 12, 13, 14, 15, 16, 17, 18, 19, 20, 21, 22, 23, 24, 25, 26, 27, 28, 29, 30, 31, 32] rfl rfl (by decide +kernel) (by decide +kernel) hk1 hFc hP1 hD1
      generalize H1 = H at hP hS ⊢
      obtain ⟨hP, hD⟩ := va_rls (ws' := [(h0, .inr (10, [.ref q1, .ref q5, .ref q9, .ref q13, .null, .null, .null, .null, .null, .null, .null, .null, .int 0, .int 0])), (q1, .inr (5, [.ref (u4 0), .ref (u4 1), .int 0, .int 0, .int 0, .int 0, .int 0, .int 0, .int 0, .int 0, .int 0, .int 0])), ((u4 0), .inr (7, [.int 0, .ref (u4 2)])), ((u4 2), .inl (G 0, 320, .inl (fun _ => 0))), ((u4 1), .inr (9, [.int 0, .int 0, .int 5, .ref (u4 3), .ref (u4 4), .ref (u4 5), .ref (u4 6), .ref (u4 7), .ref (u4 8)])), ((u4 3), .inl (G 0, 10, .inl (fun _ => 0))), ((u4 4), .inl (G 0, 10, .inl (fun _ => 0))), ((u4 5), .inl (G 0, 10, .inl (fun _ => 0))), ((u4 6), .inl (G 0, 6, .inl (fun _ => 0))), ((u4 7), .inl (G 0, 6, .inl (fun _ => 0))), ((u4 8), .inl (G 0, 6, .inl (fun _ => 0))), (q5, .inr (9, [.int 0, .int 0, .int 5, .ref (u8 0), .ref (u8 1), .ref (u8 2), .ref (u8 3), .ref (u8 4), .ref (u8 5)])), ((u8 0), .inl (G 0, 10, .inl (fun _ => 0))), ((u8 1), .inl (G 0, 10, .inl (fun _ => 0))), ((u8 2), .inl (G 0, 10, .inl (fun _ => 0))), ((u8 3), .inl (G 0, 6, .inl (fun _ => 0))), ((u8 4), .inl (G 0, 6, .inl (fun _ => 0))), ((u8 5), .inl (G 0, 6, .inl (fun _ => 0))), (q9, .inr (9, [.int 0, .int 0, .int 5, .ref (u12 0), .ref (u12 1), .ref (u12 2), .ref (u12 3), .ref (u12 4), .ref (u12 5)])), ((u12 0), .inl (G 0, 10, .inl (fun _ => 0))), ((u12 1), .inl (G 0, 10, .inl (fun _ => 0))), ((u12 2), .inl (G 0, 10, .inl (fun _ => 0))), ((u12 3), .inl (G 0, 6, .inl (fun _ => 0))), ((u12 4), .inl (G 0, 6, .inl (fun _ => 0))), ((u12 5), .inl (G 0, 6, .inl (fun _ => 0))), (q13, .inl (G 3, 2, .inr (.inr (.inr (.inr (va_up (fun _ => none) 0 (some q15))))))), (q15, .inr (9, [.int 0, .int 0, .int 5, .ref (u18 0), .ref (u18 1), .ref (u18 2), .ref (u18 3), .ref (u18 4), .ref (u18 5)])), ((u18 0), .inl (G 0, 10, .inl (fun _ => 0))), ((u18 1), .inl (G 0, 10, .inl (fun _ => 0))), ((u18 2), .inl (G 0, 10, .inl (fun _ => 0))), ((u18 3), .inl (G 0, 6, .inl (fun _ => 0))), ((u18 4), .inl (G 0, 6, .inl (fun _ => 0))), ((u18 5), .inl (G 0, 6, .inl (fun _ => 0))), (q20, .inr (9, [.int 0, .int 0, .int 5, .ref (u23 0), .ref (u23 1), .ref (u23 2), .ref (u23 3), .ref (u23 4), .ref (u23 5)])), ((u23 0), .inl (G 0, 10, .inl (fun _ => 0))), ((u23 1), .inl (G 0, 10, .inl (fun _ => 0))), ((u23 2), .inl (G 0, 10, .inl (fun _ => 0))), ((u23 3), .inl (G 0, 6, .inl (fun _ => 0))), ((u23 4), .inl (G 0, 6, .inl (fun _ => 0))), ((u23 5), .inl (G 0, 6, .inl (fun _ => 0)))]) hP hD rfl
      refine W.widen (k := 39) (n := 621) (Nat.le_of_ble_eq_true rfl) (Nat.le_of_ble_eq_true rfl) ?_
      refine va_astq hx hb hK.1 hP hD hS 25 3 33 9 rfl rfl rfl rfl (vp_in_iff.mpr ⟨by decide, by decide⟩) dX10_init_64 (fun H locs hP hD hS => ?_)
      obtain ⟨hP, hD⟩ := va_rls (ws' := [(h0, .inr (10, [.ref q1, .ref q5, .ref q9, .ref q13, .null, .null, .null, .null, .null, .null, .null, .null, .int 0, .int 0])), (q1, .inr (5, [.ref (u4 0), .ref (u4 1), .int 0, .int 0, .int 0, .int 0, .int 0, .int 0, .int 0, .int 0, .int 0, .int 0])), ((u4 0), .inr (7, [.int 0, .ref (u4 2)])), ((u4 2), .inl (G 0, 320, .inl (fun _ => 0))), ((u4 1), .inr (9, [.int 0, .int 0, .int 5, .ref (u4 3), .ref (u4 4), .ref (u4 5), .ref (u4 6), .ref (u4 7), .ref (u4 8)])), ((u4 3), .inl (G 0, 10, .inl (fun _ => 0))), ((u4 4), .inl (G 0, 10, .inl (fun _ => 0))), ((u4 5), .inl (G 0, 10, .inl (fun _ => 0))), ((u4 6), .inl (G 0, 6, .inl (fun _ => 0))), ((u4 7), .inl (G 0, 6, .inl (fun _ => 0))), ((u4 8), .inl (G 0, 6, .inl (fun _ => 0))), (q5, .inr (9, [.int 0, .int 0, .int 5, .ref (u8 0), .ref (u8 1), .ref (u8 2), .ref (u8 3), .ref (u8 4), .ref (u8 5)])), ((u8 0), .inl (G 0, 10, .inl (fun _ => 0))), ((u8 1), .inl (G 0, 10, .inl (fun _ => 0))), ((u8 2), .inl (G 0, 10, .inl (fun _ => 0))), ((u8 3), .inl (G 0, 6, .inl (fun _ => 0))), ((u8 4), .inl (G 0, 6, .inl (fun _ => 0))), ((u8 5), .inl (G 0, 6, .inl (fun _ => 0))), (q9, .inr (9, [.int 0, .int 0, .int 5, .ref (u12 0), .ref (u12 1), .ref (u12 2), .ref (u12 3), .ref (u12 4), .ref (u12 5)])), ((u12 0), .inl (G 0, 10, .inl (fun _ => 0))), ((u12 1), .inl (G 0, 10, .inl (fun _ => 0))), ((u12 2), .inl (G 0, 10, .inl (fun _ => 0))), ((u12 3), .inl (G 0, 6, .inl (fun _ => 0))), ((u12 4), .inl (G 0, 6, .inl (fun _ => 0))), ((u12 5), .inl (G 0, 6, .inl (fun _ => 0))), (q13, .inl (G 3, 2, .inr (.inr (.inr (.inr (va_up (va_up (fun _ => none) 0 (some q15)) 1 (some q20))))))), (q15, .inr (9, [.int 0, .int 0, .int 5, .ref (u18 0), .ref (u18 1), .ref (u18 2), .ref (u18 3), .ref (u18 4), .ref (u18 5)])), ((u18 0), .inl (G 0, 10, .inl (fun _ => 0))), ((u18 1), .inl (G 0, 10, .inl (fun _ => 0))), ((u18 2), .inl (G 0, 10, .inl (fun _ => 0))), ((u18 3), .inl (G 0, 6, .inl (fun _ => 0))), ((u18 4), .inl (G 0, 6, .inl (fun _ => 0))), ((u18 5), .inl (G 0, 6, .inl (fun _ => 0))), (q20, .inr (9, [.int 0, .int 0, .int 5, .ref (u23 0), .ref (u23 1), .ref (u23 2), .ref (u23 3), .ref (u23 4), .ref (u23 5)])), ((u23 0), .inl (G 0, 10, .inl (fun _ => 0))), ((u23 1), .inl (G 0, 10, .inl (fun _ => 0))), ((u23 2), .inl (G 0, 10, .inl (fun _ => 0))), ((u23 3), .inl (G 0, 6, .inl (fun _ => 0))), ((u23 4), .inl (G 0, 6, .inl (fun _ => 0))), ((u23 5), .inl (G 0, 6, .inl (fun _ => 0)))]) hP hD rfl
      refine lv_iinc (v := 2) (lv' := [(1, .int 2), (0, .ref h0)]) hx hb dX10_init_65 hl (k := 0) rfl (by decide) (by decide) rfl (fun ls hl => ?_)
      refine lv_goto (tgt := 47) hx hb dX10_init_68 rfl ?_
      refine lv_iload_n hx hb dX10_init_47 rfl (lv_at hl 0 rfl) ?_
      refine lv_iconst (v := 2) hx hb dX10_init_48 rfl ?_
      refine lv_icmp_ge (tgt := 71) hx hb dX10_init_49 rfl (fun c24 => ?_) (fun c24 => ?_)
      · skip
        refine lv_aload_n hx hb dX10_init_71 rfl (lv_at hl 1 rfl) ?_
        refine lv_iconst (v := 2) hx hb dX10_init_72 rfl ?_
        refine va_newa (atype := .boolean) (N' := 2) (a0 := (2, .inl (fun _ => 0))) hx hb (hg _ wt_168) rfl hK.1 hP hD hS hA (fun _ => rfl) (by decide) (by decide) (by decide) (Nat.le_of_ble_eq_true rfl) (Nat.le_of_ble_eq_true rfl) dX10_init_73 (fun q25 cA H hK9 hP hD hS => ?_)
        obtain rfl := uniA hK9 2 rfl
        obtain ⟨hP, hD⟩ := va_rls (ws' := [(h0, .inr (10, [.ref q1, .ref q5, .ref q9, .ref q13, .null, .null, .null, .null, .null, .null, .null, .null, .int 0, .int 0])), (q1, .inr (5, [.ref (u4 0), .ref (u4 1), .int 0, .int 0, .int 0, .int 0, .int 0, .int 0, .int 0, .int 0, .int 0, .int 0])), ((u4 0), .inr (7, [.int 0, .ref (u4 2)])), ((u4 2), .inl (G 0, 320, .inl (fun _ => 0))), ((u4 1), .inr (9, [.int 0, .int 0, .int 5, .ref (u4 3), .ref (u4 4), .ref (u4 5), .ref (u4 6), .ref (u4 7), .ref (u4 8)])), ((u4 3), .inl (G 0, 10, .inl (fun _ => 0))), ((u4 4), .inl (G 0, 10, .inl (fun _ => 0))), ((u4 5), .inl (G 0, 10, .inl (fun _ => 0))), ((u4 6), .inl (G 0, 6, .inl (fun _ => 0))), ((u4 7), .inl (G 0, 6, .inl (fun _ => 0))), ((u4 8), .inl (G 0, 6, .inl (fun _ => 0))), (q5, .inr (9, [.int 0, .int 0, .int 5, .ref (u8 0), .ref (u8 1), .ref (u8 2), .ref (u8 3), .ref (u8 4), .ref (u8 5)])), ((u8 0), .inl (G 0, 10, .inl (fun _ => 0))), ((u8 1), .inl (G 0, 10, .inl (fun _ => 0))), ((u8 2), .inl (G 0, 10, .inl (fun _ => 0))), ((u8 3), .inl (G 0, 6, .inl (fun _ => 0))), ((u8 4), .inl (G 0, 6, .inl (fun _ => 0))), ((u8 5), .inl (G 0, 6, .inl (fun _ => 0))), (q9, .inr (9, [.int 0, .int 0, .int 5, .ref (u12 0), .ref (u12 1), .ref (u12 2), .ref (u12 3), .ref (u12 4), .ref (u12 5)])), ((u12 0), .inl (G 0, 10, .inl (fun _ => 0))), ((u12 1), .inl (G 0, 10, .inl (fun _ => 0))), ((u12 2), .inl (G 0, 10, .inl (fun _ => 0))), ((u12 3), .inl (G 0, 6, .inl (fun _ => 0))), ((u12 4), .inl (G 0, 6, .inl (fun _ => 0))), ((u12 5), .inl (G 0, 6, .inl (fun _ => 0))), (q13, .inl (G 3, 2, .inr (.inr (.inr (.inr (va_up (va_up (fun _ => none) 0 (some q15)) 1 (some q20))))))), (q15, .inr (9, [.int 0, .int 0, .int 5, .ref (u18 0), .ref (u18 1), .ref (u18 2), .ref (u18 3), .ref (u18 4), .ref (u18 5)])), ((u18 0), .inl (G 0, 10, .inl (fun _ => 0))), ((u18 1), .inl (G 0, 10, .inl (fun _ => 0))), ((u18 2), .inl (G 0, 10, .inl (fun _ => 0))), ((u18 3), .inl (G 0, 6, .inl (fun _ => 0))), ((u18 4), .inl (G 0, 6, .inl (fun _ => 0))), ((u18 5), .inl (G 0, 6, .inl (fun _ => 0))), (q20, .inr (9, [.int 0, .int 0, .int 5, .ref (u23 0), .ref (u23 1), .ref (u23 2), .ref (u23 3), .ref (u23 4), .ref (u23 5)])), ((u23 0), .inl (G 0, 10, .inl (fun _ => 0))), ((u23 1), .inl (G 0, 10, .inl (fun _ => 0))), ((u23 2), .inl (G 0, 10, .inl (fun _ => 0))), ((u23 3), .inl (G 0, 6, .inl (fun _ => 0))), ((u23 4), .inl (G 0, 6, .inl (fun _ => 0))), ((u23 5), .inl (G 0, 6, .inl (fun _ => 0))), (q25, .inl (G 2, 2, .inl (fun _ => 0)))]) hP hD rfl
        refine W.widen (k := 40) (n := 623) (Nat.le_of_ble_eq_true rfl) (Nat.le_of_ble_eq_true rfl) ?_
        refine va_putF (D := (dC, dI)) (ci := 10) (v := .ref q25) (ty := (.array .boolean)) (C := RX10) (T := TX10) (N := 14) hx hb hg inG10 tyX10 tyX10_ok nmX10 hown hK.1 hP hD hS 0 rfl rfl 4 (Nat.le_of_ble_eq_true rfl) (hg _ wt_306) (fun _ h9 => h9) rfl hin rfl (by decide +kernel) rfl rfl (Nat.le_of_ble_eq_true rfl) dX10_init_75 (fun H locs hP hD hS => ?_)
        obtain ⟨hP, hD⟩ := va_rls (ws' := [(h0, .inr (10, [.ref q1, .ref q5, .ref q9, .ref q13, .ref q25, .null, .null, .null, .null, .null, .null, .null, .int 0, .int 0])), (q1, .inr (5, [.ref (u4 0), .ref (u4 1), .int 0, .int 0, .int 0, .int 0, .int 0, .int 0, .int 0, .int 0, .int 0, .int 0])), ((u4 0), .inr (7, [.int 0, .ref (u4 2)])), ((u4 2), .inl (G 0, 320, .inl (fun _ => 0))), ((u4 1), .inr (9, [.int 0, .int 0, .int 5, .ref (u4 3), .ref (u4 4), .ref (u4 5), .ref (u4 6), .ref (u4 7), .ref (u4 8)])), ((u4 3), .inl (G 0, 10, .inl (fun _ => 0))), ((u4 4), .inl (G 0, 10, .inl (fun _ => 0))), ((u4 5), .inl (G 0, 10, .inl (fun _ => 0))), ((u4 6), .inl (G 0, 6, .inl (fun _ => 0))), ((u4 7), .inl (G 0, 6, .inl (fun _ => 0))), ((u4 8), .inl (G 0, 6, .inl (fun _ => 0))), (q5, .inr (9, [.int 0, .int 0, .int 5, .ref (u8 0), .ref (u8 1), .ref (u8 2), .ref (u8 3), .ref (u8 4), .ref (u8 5)])), ((u8 0), .inl (G 0, 10, .inl (fun _ => 0))), ((u8 1), .inl (G 0, 10, .inl (fun _ => 0))), ((u8 2), .inl (G 0, 10, .inl (fun _ => 0))), ((u8 3), .inl (G 0, 6, .inl (fun _ => 0))), ((u8 4), .inl (G 0, 6, .inl (fun _ => 0))), ((u8 5), .inl (G 0, 6, .inl (fun _ => 0))), (q9, .inr (9, [.int 0, .int 0, .int 5, .ref (u12 0), .ref (u12 1), .ref (u12 2), .ref (u12 3), .ref (u12 4), .ref (u12 5)])), ((u12 0), .inl (G 0, 10, .inl (fun _ => 0))), ((u12 1), .inl (G 0, 10, .inl (fun _ => 0))), ((u12 2), .inl (G 0, 10, .inl (fun _ => 0))), ((u12 3), .inl (G 0, 6, .inl (fun _ => 0))), ((u12 4), .inl (G 0, 6, .inl (fun _ => 0))), ((u12 5), .inl (G 0, 6, .inl (fun _ => 0))), (q13, .inl (G 3, 2, .inr (.inr (.inr (.inr (va_up (va_up (fun _ => none) 0 (some q15)) 1 (some q20))))))), (q15, .inr (9, [.int 0, .int 0, .int 5, .ref (u18 0), .ref (u18 1), .ref (u18 2), .ref (u18 3), .ref (u18 4), .ref (u18 5)])), ((u18 0), .inl (G 0, 10, .inl (fun _ => 0))), ((u18 1), .inl (G 0, 10, .inl (fun _ => 0))), ((u18 2), .inl (G 0, 10, .inl (fun _ => 0))), ((u18 3), .inl (G 0, 6, .inl (fun _ => 0))), ((u18 4), .inl (G 0, 6, .inl (fun _ => 0))), ((u18 5), .inl (G 0, 6, .inl (fun _ => 0))), (q20, .inr (9, [.int 0, .int 0, .int 5, .ref (u23 0), .ref (u23 1), .ref (u23 2), .ref (u23 3), .ref (u23 4), .ref (u23 5)])), ((u23 0), .inl (G 0, 10, .inl (fun _ => 0))), ((u23 1), .inl (G 0, 10, .inl (fun _ => 0))), ((u23 2), .inl (G 0, 10, .inl (fun _ => 0))), ((u23 3), .inl (G 0, 6, .inl (fun _ => 0))), ((u23 4), .inl (G 0, 6, .inl (fun _ => 0))), ((u23 5), .inl (G 0, 6, .inl (fun _ => 0))), (q25, .inl (G 2, 2, .inl (fun _ => 0)))]) hP hD rfl
        refine lv_aload_n hx hb dX10_init_78 rfl (lv_at hl 1 rfl) ?_
        refine va_new (ci := 4) (fs := [.long 0, .null, .null]) (C := RX4) (T := TX4) (N := 3) hx hb hg inG4 tyX4 tyX4_ok hown (hg _ wt_150) (hg _ wt_151) (hg _ wt_5) hK.1 hP hD hS hA rfl nwX4 (Nat.le_of_ble_eq_true rfl) (Nat.le_of_ble_eq_true rfl) dX10_init_79 (fun q26 H hP hD hS => ?_)
        obtain ⟨hP, hD⟩ := va_rls (ws' := [(h0, .inr (10, [.ref q1, .ref q5, .ref q9, .ref q13, .ref q25, .null, .null, .null, .null, .null, .null, .null, .int 0, .int 0])), (q1, .inr (5, [.ref (u4 0), .ref (u4 1), .int 0, .int 0, .int 0, .int 0, .int 0, .int 0, .int 0, .int 0, .int 0, .int 0])), ((u4 0), .inr (7, [.int 0, .ref (u4 2)])), ((u4 2), .inl (G 0, 320, .inl (fun _ => 0))), ((u4 1), .inr (9, [.int 0, .int 0, .int 5, .ref (u4 3), .ref (u4 4), .ref (u4 5), .ref (u4 6), .ref (u4 7), .ref (u4 8)])), ((u4 3), .inl (G 0, 10, .inl (fun _ => 0))), ((u4 4), .inl (G 0, 10, .inl (fun _ => 0))), ((u4 5), .inl (G 0, 10, .inl (fun _ => 0))), ((u4 6), .inl (G 0, 6, .inl (fun _ => 0))), ((u4 7), .inl (G 0, 6, .inl (fun _ => 0))), ((u4 8), .inl (G 0, 6, .inl (fun _ => 0))), (q5, .inr (9, [.int 0, .int 0, .int 5, .ref (u8 0), .ref (u8 1), .ref (u8 2), .ref (u8 3), .ref (u8 4), .ref (u8 5)])), ((u8 0), .inl (G 0, 10, .inl (fun _ => 0))), ((u8 1), .inl (G 0, 10, .inl (fun _ => 0))), ((u8 2), .inl (G 0, 10, .inl (fun _ => 0))), ((u8 3), .inl (G 0, 6, .inl (fun _ => 0))), ((u8 4), .inl (G 0, 6, .inl (fun _ => 0))), ((u8 5), .inl (G 0, 6, .inl (fun _ => 0))), (q9, .inr (9, [.int 0, .int 0, .int 5, .ref (u12 0), .ref (u12 1), .ref (u12 2), .ref (u12 3), .ref (u12 4), .ref (u12 5)])), ((u12 0), .inl (G 0, 10, .inl (fun _ => 0))), ((u12 1), .inl (G 0, 10, .inl (fun _ => 0))), ((u12 2), .inl (G 0, 10, .inl (fun _ => 0))), ((u12 3), .inl (G 0, 6, .inl (fun _ => 0))), ((u12 4), .inl (G 0, 6, .inl (fun _ => 0))), ((u12 5), .inl (G 0, 6, .inl (fun _ => 0))), (q13, .inl (G 3, 2, .inr (.inr (.inr (.inr (va_up (va_up (fun _ => none) 0 (some q15)) 1 (some q20))))))), (q15, .inr (9, [.int 0, .int 0, .int 5, .ref (u18 0), .ref (u18 1), .ref (u18 2), .ref (u18 3), .ref (u18 4), .ref (u18 5)])), ((u18 0), .inl (G 0, 10, .inl (fun _ => 0))), ((u18 1), .inl (G 0, 10, .inl (fun _ => 0))), ((u18 2), .inl (G 0, 10, .inl (fun _ => 0))), ((u18 3), .inl (G 0, 6, .inl (fun _ => 0))), ((u18 4), .inl (G 0, 6, .inl (fun _ => 0))), ((u18 5), .inl (G 0, 6, .inl (fun _ => 0))), (q20, .inr (9, [.int 0, .int 0, .int 5, .ref (u23 0), .ref (u23 1), .ref (u23 2), .ref (u23 3), .ref (u23 4), .ref (u23 5)])), ((u23 0), .inl (G 0, 10, .inl (fun _ => 0))), ((u23 1), .inl (G 0, 10, .inl (fun _ => 0))), ((u23 2), .inl (G 0, 10, .inl (fun _ => 0))), ((u23 3), .inl (G 0, 6, .inl (fun _ => 0))), ((u23 4), .inl (G 0, 6, .inl (fun _ => 0))), ((u23 5), .inl (G 0, 6, .inl (fun _ => 0))), (q25, .inl (G 2, 2, .inl (fun _ => 0))), (q26, .inr (4, [.long 0, .null, .null]))]) hP hD rfl
        refine W.widen (k := 41) (n := 626) (Nat.le_of_ble_eq_true rfl) (Nat.le_of_ble_eq_true rfl) ?_
        refine lv_dup hx hb dX10_init_82 rfl ?_
        obtain ⟨hPc, hDc, hFc⟩ := va_sub3 (ws' := [(q26, .inr (4, [.long 0, .null, .null]))]) hP hD hS hA [41] (by decide +kernel) rfl
        refine va_callv (va_runIN (As := []) (rest := [.ref q26, .ref h0]) ⟨hx, hb, hml, hown, hg⟩ (c_X4_init l dC dI G _ q26) (kwIN hg hK mfX4_init wn_152 ⟨Nat.le_of_ble_eq_true rfl, Nat.le_of_ble_eq_true rfl⟩) (preSW hK hPc hDc) rfl rfl hl.1 rfl (lv_room (Nat.le_of_ble_eq_true rfl)) dX10_init_83 ⟨Nat.le_of_ble_eq_true rfl, Nat.le_of_ble_eq_true rfl⟩) hS (fun q _ h => hFc q h) hFc (fun ur27 t H1 locs ht hvm w28 hB hz1 hk1 hS => ?_)
        obtain ⟨u29, rfl⟩ : ∃ z, z = ur27 := ⟨_, rfl⟩
        obtain ⟨hP1, hD1⟩ := hB
        rw [ht] at hP1
        obtain ⟨hP, hD⟩ := va_join (wr := [(h0, .inr (10, [.ref q1, .ref q5, .ref q9, .ref q13, .ref q25, .null, .null, .null, .null, .null, .null, .null, .int 0, .int 0])), (q1, .inr (5, [.ref (u4 0), .ref (u4 1), .int 0, .int 0, .int 0, .int 0, .int 0, .int 0, .int 0, .int 0, .int 0, .int 0])), ((u4 0), .inr (7, [.int 0, .ref (u4 2)])), ((u4 2), .inl (G 0, 320, .inl (fun _ => 0))), ((u4 1), .inr (9, [.int 0, .int 0, .int 5, .ref (u4 3), .ref (u4 4), .ref (u4 5), .ref (u4 6), .ref (u4 7), .ref (u4 8)])), ((u4 3), .inl (G 0, 10, .inl (fun _ => 0))), ((u4 4), .inl (G 0, 10, .inl (fun _ => 0))), ((u4 5), .inl (G 0, 10, .inl (fun _ => 0))), ((u4 6), .inl (G 0, 6, .inl (fun _ => 0))), ((u4 7), .inl (G 0, 6, .inl (fun _ => 0))), ((u4 8), .inl (G 0, 6, .inl (fun _ => 0))), (q5, .inr (9, [.int 0, .int 0, .int 5, .ref (u8 0), .ref (u8 1), .ref (u8 2), .ref (u8 3), .ref (u8 4), .ref (u8 5)])), ((u8 0), .inl (G 0, 10, .inl (fun _ => 0))), ((u8 1), .inl (G 0, 10, .inl (fun _ => 0))), ((u8 2), .inl (G 0, 10, .inl (fun _ => 0))), ((u8 3), .inl (G 0, 6, .inl (fun _ => 0))), ((u8 4), .inl (G 0, 6, .inl (fun _ => 0))), ((u8 5), .inl (G 0, 6, .inl (fun _ => 0))), (q9, .inr (9, [.int 0, .int 0, .int 5, .ref (u12 0), .ref (u12 1), .ref (u12 2), .ref (u12 3), .ref (u12 4), .ref (u12 5)])), ((u12 0), .inl (G 0, 10, .inl (fun _ => 0))), ((u12 1), .inl (G 0, 10, .inl (fun _ => 0))), ((u12 2), .inl (G 0, 10, .inl (fun _ => 0))), ((u12 3), .inl (G 0, 6, .inl (fun _ => 0))), ((u12 4), .inl (G 0, 6, .inl (fun _ => 0))), ((u12 5), .inl (G 0, 6, .inl (fun _ => 0))), (q13, .inl (G 3, 2, .inr (.inr (.inr (.inr (va_up (va_up (fun _ => none) 0 (some q15)) 1 (some q20))))))), (q15, .inr (9, [.int 0, .int 0, .int 5, .ref (u18 0), .ref (u18 1), .ref (u18 2), .ref (u18 3), .ref (u18 4), .ref (u18 5)])), ((u18 0), .inl (G 0, 10, .inl (fun _ => 0))), ((u18 1), .inl (G 0, 10, .inl (fun _ => 0))), ((u18 2), .inl (G 0, 10, .inl (fun _ => 0))), ((u18 3), .inl (G 0, 6, .inl (fun _ => 0))), ((u18 4), .inl (G 0, 6, .inl (fun _ => 0))), ((u18 5), .inl (G 0, 6, .inl (fun _ => 0))), (q20, .inr (9, [.int 0, .int 0, .int 5, .ref (u23 0), .ref (u23 1), .ref (u23 2), .ref (u23 3), .ref (u23 4), .ref (u23 5)])), ((u23 0), .inl (G 0, 10, .inl (fun _ => 0))), ((u23 1), .inl (G 0, 10, .inl (fun _ => 0))), ((u23 2), .inl (G 0, 10, .inl (fun _ => 0))), ((u23 3), .inl (G 0, 6, .inl (fun _ => 0))), ((u23 4), .inl (G 0, 6, .inl (fun _ => 0))), ((u23 5), .inl (G 0, 6, .inl (fun _ => 0))), (q25, .inl (G 2, 2, .inl (fun _ => 0)))]) (w1 := [(q26, .inr (4, [.long 1, .ref (u29 0), .ref (u29 1)])), ((u29 0), .inl (G 1, 10, .inr (.inl (fun _ => 0)))), ((u29 1), .inl (G 1, 10, .inr (.inl (fun _ => 0))))]) hP hD [41] [0, 1, 2, 3, 4, 5, 6, 7, 8, 9, 10, 11, 12, 13, 14, 15, 16, 17, 18, 19, 20, 21, 22, 23, 24, 25, 26, 27, 28, 29, 30, 31, 32, 33, 34, 35, 36, 37, 38, 39, 40] rfl rfl (by decide +kernel) (by decide +kernel) hk1 hFc hP1 hD1
        generalize H1 = H at hP hS ⊢
        obtain ⟨hP, hD⟩ := va_rls (ws' := [(h0, .inr (10, [.ref q1, .ref q5, .ref q9, .ref q13, .ref q25, .null, .null, .null, .null, .null, .null, .null, .int 0, .int 0])), (q1, .inr (5, [.ref (u4 0), .ref (u4 1), .int 0, .int 0, .int 0, .int 0, .int 0, .int 0, .int 0, .int 0, .int 0, .int 0])), ((u4 0), .inr (7, [.int 0, .ref (u4 2)])), ((u4 2), .inl (G 0, 320, .inl (fun _ => 0))), ((u4 1), .inr (9, [.int 0, .int 0, .int 5, .ref (u4 3), .ref (u4 4), .ref (u4 5), .ref (u4 6), .ref (u4 7), .ref (u4 8)])), ((u4 3), .inl (G 0, 10, .inl (fun _ => 0))), ((u4 4), .inl (G 0, 10, .inl (fun _ => 0))), ((u4 5), .inl (G 0, 10, .inl (fun _ => 0))), ((u4 6), .inl (G 0, 6, .inl (fun _ => 0))), ((u4 7), .inl (G 0, 6, .inl (fun _ => 0))), ((u4 8), .inl (G 0, 6, .inl (fun _ => 0))), (q5, .inr (9, [.int 0, .int 0, .int 5, .ref (u8 0), .ref (u8 1), .ref (u8 2), .ref (u8 3), .ref (u8 4), .ref (u8 5)])), ((u8 0), .inl (G 0, 10, .inl (fun _ => 0))), ((u8 1), .inl (G 0, 10, .inl (fun _ => 0))), ((u8 2), .inl (G 0, 10, .inl (fun _ => 0))), ((u8 3), .inl (G 0, 6, .inl (fun _ => 0))), ((u8 4), .inl (G 0, 6, .inl (fun _ => 0))), ((u8 5), .inl (G 0, 6, .inl (fun _ => 0))), (q9, .inr (9, [.int 0, .int 0, .int 5, .ref (u12 0), .ref (u12 1), .ref (u12 2), .ref (u12 3), .ref (u12 4), .ref (u12 5)])), ((u12 0), .inl (G 0, 10, .inl (fun _ => 0))), ((u12 1), .inl (G 0, 10, .inl (fun _ => 0))), ((u12 2), .inl (G 0, 10, .inl (fun _ => 0))), ((u12 3), .inl (G 0, 6, .inl (fun _ => 0))), ((u12 4), .inl (G 0, 6, .inl (fun _ => 0))), ((u12 5), .inl (G 0, 6, .inl (fun _ => 0))), (q13, .inl (G 3, 2, .inr (.inr (.inr (.inr (va_up (va_up (fun _ => none) 0 (some q15)) 1 (some q20))))))), (q15, .inr (9, [.int 0, .int 0, .int 5, .ref (u18 0), .ref (u18 1), .ref (u18 2), .ref (u18 3), .ref (u18 4), .ref (u18 5)])), ((u18 0), .inl (G 0, 10, .inl (fun _ => 0))), ((u18 1), .inl (G 0, 10, .inl (fun _ => 0))), ((u18 2), .inl (G 0, 10, .inl (fun _ => 0))), ((u18 3), .inl (G 0, 6, .inl (fun _ => 0))), ((u18 4), .inl (G 0, 6, .inl (fun _ => 0))), ((u18 5), .inl (G 0, 6, .inl (fun _ => 0))), (q20, .inr (9, [.int 0, .int 0, .int 5, .ref (u23 0), .ref (u23 1), .ref (u23 2), .ref (u23 3), .ref (u23 4), .ref (u23 5)])), ((u23 0), .inl (G 0, 10, .inl (fun _ => 0))), ((u23 1), .inl (G 0, 10, .inl (fun _ => 0))), ((u23 2), .inl (G 0, 10, .inl (fun _ => 0))), ((u23 3), .inl (G 0, 6, .inl (fun _ => 0))), ((u23 4), .inl (G 0, 6, .inl (fun _ => 0))), ((u23 5), .inl (G 0, 6, .inl (fun _ => 0))), (q25, .inl (G 2, 2, .inl (fun _ => 0))), (q26, .inr (4, [.long 1, .ref (u29 0), .ref (u29 1)])), ((u29 0), .inl (G 1, 10, .inr (.inl (fun _ => 0)))), ((u29 1), .inl (G 1, 10, .inr (.inl (fun _ => 0))))]) hP hD rfl
        refine W.widen (k := 43) (n := 646) (Nat.le_of_ble_eq_true rfl) (Nat.le_of_ble_eq_true rfl) ?_
        refine va_putF (D := (dC, dI)) (ci := 10) (v := .ref q26) (ty := (.object "AsleepPass$Odds")) (C := RX10) (T := TX10) (N := 14) hx hb hg inG10 tyX10 tyX10_ok nmX10 hown hK.1 hP hD hS 0 rfl rfl 5 (Nat.le_of_ble_eq_true rfl) (hg _ wt_307) (fun _ h9 => h9) rfl hin rfl (by decide +kernel) rfl rfl (Nat.le_of_ble_eq_true rfl) dX10_init_86 (fun H locs hP hD hS => ?_)
        obtain ⟨hP, hD⟩ := va_rls (ws' := [(h0, .inr (10, [.ref q1, .ref q5, .ref q9, .ref q13, .ref q25, .ref q26, .null, .null, .null, .null, .null, .null, .int 0, .int 0])), (q1, .inr (5, [.ref (u4 0), .ref (u4 1), .int 0, .int 0, .int 0, .int 0, .int 0, .int 0, .int 0, .int 0, .int 0, .int 0])), ((u4 0), .inr (7, [.int 0, .ref (u4 2)])), ((u4 2), .inl (G 0, 320, .inl (fun _ => 0))), ((u4 1), .inr (9, [.int 0, .int 0, .int 5, .ref (u4 3), .ref (u4 4), .ref (u4 5), .ref (u4 6), .ref (u4 7), .ref (u4 8)])), ((u4 3), .inl (G 0, 10, .inl (fun _ => 0))), ((u4 4), .inl (G 0, 10, .inl (fun _ => 0))), ((u4 5), .inl (G 0, 10, .inl (fun _ => 0))), ((u4 6), .inl (G 0, 6, .inl (fun _ => 0))), ((u4 7), .inl (G 0, 6, .inl (fun _ => 0))), ((u4 8), .inl (G 0, 6, .inl (fun _ => 0))), (q5, .inr (9, [.int 0, .int 0, .int 5, .ref (u8 0), .ref (u8 1), .ref (u8 2), .ref (u8 3), .ref (u8 4), .ref (u8 5)])), ((u8 0), .inl (G 0, 10, .inl (fun _ => 0))), ((u8 1), .inl (G 0, 10, .inl (fun _ => 0))), ((u8 2), .inl (G 0, 10, .inl (fun _ => 0))), ((u8 3), .inl (G 0, 6, .inl (fun _ => 0))), ((u8 4), .inl (G 0, 6, .inl (fun _ => 0))), ((u8 5), .inl (G 0, 6, .inl (fun _ => 0))), (q9, .inr (9, [.int 0, .int 0, .int 5, .ref (u12 0), .ref (u12 1), .ref (u12 2), .ref (u12 3), .ref (u12 4), .ref (u12 5)])), ((u12 0), .inl (G 0, 10, .inl (fun _ => 0))), ((u12 1), .inl (G 0, 10, .inl (fun _ => 0))), ((u12 2), .inl (G 0, 10, .inl (fun _ => 0))), ((u12 3), .inl (G 0, 6, .inl (fun _ => 0))), ((u12 4), .inl (G 0, 6, .inl (fun _ => 0))), ((u12 5), .inl (G 0, 6, .inl (fun _ => 0))), (q13, .inl (G 3, 2, .inr (.inr (.inr (.inr (va_up (va_up (fun _ => none) 0 (some q15)) 1 (some q20))))))), (q15, .inr (9, [.int 0, .int 0, .int 5, .ref (u18 0), .ref (u18 1), .ref (u18 2), .ref (u18 3), .ref (u18 4), .ref (u18 5)])), ((u18 0), .inl (G 0, 10, .inl (fun _ => 0))), ((u18 1), .inl (G 0, 10, .inl (fun _ => 0))), ((u18 2), .inl (G 0, 10, .inl (fun _ => 0))), ((u18 3), .inl (G 0, 6, .inl (fun _ => 0))), ((u18 4), .inl (G 0, 6, .inl (fun _ => 0))), ((u18 5), .inl (G 0, 6, .inl (fun _ => 0))), (q20, .inr (9, [.int 0, .int 0, .int 5, .ref (u23 0), .ref (u23 1), .ref (u23 2), .ref (u23 3), .ref (u23 4), .ref (u23 5)])), ((u23 0), .inl (G 0, 10, .inl (fun _ => 0))), ((u23 1), .inl (G 0, 10, .inl (fun _ => 0))), ((u23 2), .inl (G 0, 10, .inl (fun _ => 0))), ((u23 3), .inl (G 0, 6, .inl (fun _ => 0))), ((u23 4), .inl (G 0, 6, .inl (fun _ => 0))), ((u23 5), .inl (G 0, 6, .inl (fun _ => 0))), (q25, .inl (G 2, 2, .inl (fun _ => 0))), (q26, .inr (4, [.long 1, .ref (u29 0), .ref (u29 1)])), ((u29 0), .inl (G 1, 10, .inr (.inl (fun _ => 0)))), ((u29 1), .inl (G 1, 10, .inr (.inl (fun _ => 0))))]) hP hD rfl
        refine lv_aload_n hx hb dX10_init_89 rfl (lv_at hl 1 rfl) ?_
        refine va_new (ci := 0) (fs := [.long 0, .null, .null]) (C := RX0) (T := TX0) (N := 3) hx hb hg inG0 tyX0 tyX0_ok hown (hg _ wt_170) (hg _ wt_171) (hg _ wt_6) hK.1 hP hD hS hA rfl nwX0 (Nat.le_of_ble_eq_true rfl) (Nat.le_of_ble_eq_true rfl) dX10_init_90 (fun q30 H hP hD hS => ?_)
        obtain ⟨hP, hD⟩ := va_rls (ws' := [(h0, .inr (10, [.ref q1, .ref q5, .ref q9, .ref q13, .ref q25, .ref q26, .null, .null, .null, .null, .null, .null, .int 0, .int 0])), (q1, .inr (5, [.ref (u4 0), .ref (u4 1), .int 0, .int 0, .int 0, .int 0, .int 0, .int 0, .int 0, .int 0, .int 0, .int 0])), ((u4 0), .inr (7, [.int 0, .ref (u4 2)])), ((u4 2), .inl (G 0, 320, .inl (fun _ => 0))), ((u4 1), .inr (9, [.int 0, .int 0, .int 5, .ref (u4 3), .ref (u4 4), .ref (u4 5), .ref (u4 6), .ref (u4 7), .ref (u4 8)])), ((u4 3), .inl (G 0, 10, .inl (fun _ => 0))), ((u4 4), .inl (G 0, 10, .inl (fun _ => 0))), ((u4 5), .inl (G 0, 10, .inl (fun _ => 0))), ((u4 6), .inl (G 0, 6, .inl (fun _ => 0))), ((u4 7), .inl (G 0, 6, .inl (fun _ => 0))), ((u4 8), .inl (G 0, 6, .inl (fun _ => 0))), (q5, .inr (9, [.int 0, .int 0, .int 5, .ref (u8 0), .ref (u8 1), .ref (u8 2), .ref (u8 3), .ref (u8 4), .ref (u8 5)])), ((u8 0), .inl (G 0, 10, .inl (fun _ => 0))), ((u8 1), .inl (G 0, 10, .inl (fun _ => 0))), ((u8 2), .inl (G 0, 10, .inl (fun _ => 0))), ((u8 3), .inl (G 0, 6, .inl (fun _ => 0))), ((u8 4), .inl (G 0, 6, .inl (fun _ => 0))), ((u8 5), .inl (G 0, 6, .inl (fun _ => 0))), (q9, .inr (9, [.int 0, .int 0, .int 5, .ref (u12 0), .ref (u12 1), .ref (u12 2), .ref (u12 3), .ref (u12 4), .ref (u12 5)])), ((u12 0), .inl (G 0, 10, .inl (fun _ => 0))), ((u12 1), .inl (G 0, 10, .inl (fun _ => 0))), ((u12 2), .inl (G 0, 10, .inl (fun _ => 0))), ((u12 3), .inl (G 0, 6, .inl (fun _ => 0))), ((u12 4), .inl (G 0, 6, .inl (fun _ => 0))), ((u12 5), .inl (G 0, 6, .inl (fun _ => 0))), (q13, .inl (G 3, 2, .inr (.inr (.inr (.inr (va_up (va_up (fun _ => none) 0 (some q15)) 1 (some q20))))))), (q15, .inr (9, [.int 0, .int 0, .int 5, .ref (u18 0), .ref (u18 1), .ref (u18 2), .ref (u18 3), .ref (u18 4), .ref (u18 5)])), ((u18 0), .inl (G 0, 10, .inl (fun _ => 0))), ((u18 1), .inl (G 0, 10, .inl (fun _ => 0))), ((u18 2), .inl (G 0, 10, .inl (fun _ => 0))), ((u18 3), .inl (G 0, 6, .inl (fun _ => 0))), ((u18 4), .inl (G 0, 6, .inl (fun _ => 0))), ((u18 5), .inl (G 0, 6, .inl (fun _ => 0))), (q20, .inr (9, [.int 0, .int 0, .int 5, .ref (u23 0), .ref (u23 1), .ref (u23 2), .ref (u23 3), .ref (u23 4), .ref (u23 5)])), ((u23 0), .inl (G 0, 10, .inl (fun _ => 0))), ((u23 1), .inl (G 0, 10, .inl (fun _ => 0))), ((u23 2), .inl (G 0, 10, .inl (fun _ => 0))), ((u23 3), .inl (G 0, 6, .inl (fun _ => 0))), ((u23 4), .inl (G 0, 6, .inl (fun _ => 0))), ((u23 5), .inl (G 0, 6, .inl (fun _ => 0))), (q25, .inl (G 2, 2, .inl (fun _ => 0))), (q26, .inr (4, [.long 1, .ref (u29 0), .ref (u29 1)])), ((u29 0), .inl (G 1, 10, .inr (.inl (fun _ => 0)))), ((u29 1), .inl (G 1, 10, .inr (.inl (fun _ => 0)))), (q30, .inr (0, [.long 0, .null, .null]))]) hP hD rfl
        refine W.widen (k := 44) (n := 649) (Nat.le_of_ble_eq_true rfl) (Nat.le_of_ble_eq_true rfl) ?_
        refine lv_dup hx hb dX10_init_93 rfl ?_
        obtain ⟨hPc, hDc, hFc⟩ := va_sub3 (ws' := [(q30, .inr (0, [.long 0, .null, .null]))]) hP hD hS hA [44] (by decide +kernel) rfl
        refine va_callv (va_runIN (As := []) (rest := [.ref q30, .ref h0]) ⟨hx, hb, hml, hown, hg⟩ (c_X0_init l dC dI G _ q30) (kwIN hg hK mfX0_init wn_172 ⟨Nat.le_of_ble_eq_true rfl, Nat.le_of_ble_eq_true rfl⟩) (preSW hK hPc hDc) rfl rfl hl.1 rfl (lv_room (Nat.le_of_ble_eq_true rfl)) dX10_init_94 ⟨Nat.le_of_ble_eq_true rfl, Nat.le_of_ble_eq_true rfl⟩) hS (fun q _ h => hFc q h) hFc (fun ur31 t H1 locs ht hvm w32 hB hz1 hk1 hS => ?_)
        obtain ⟨u33, u34, u35⟩ := ur31
        obtain ⟨hP1, hD1⟩ := hB
        rw [ht] at hP1
        obtain ⟨hP, hD⟩ := va_join (wr := [(h0, .inr (10, [.ref q1, .ref q5, .ref q9, .ref q13, .ref q25, .ref q26, .null, .null, .null, .null, .null, .null, .int 0, .int 0])), (q1, .inr (5, [.ref (u4 0), .ref (u4 1), .int 0, .int 0, .int 0, .int 0, .int 0, .int 0, .int 0, .int 0, .int 0, .int 0])), ((u4 0), .inr (7, [.int 0, .ref (u4 2)])), ((u4 2), .inl (G 0, 320, .inl (fun _ => 0))), ((u4 1), .inr (9, [.int 0, .int 0, .int 5, .ref (u4 3), .ref (u4 4), .ref (u4 5), .ref (u4 6), .ref (u4 7), .ref (u4 8)])), ((u4 3), .inl (G 0, 10, .inl (fun _ => 0))), ((u4 4), .inl (G 0, 10, .inl (fun _ => 0))), ((u4 5), .inl (G 0, 10, .inl (fun _ => 0))), ((u4 6), .inl (G 0, 6, .inl (fun _ => 0))), ((u4 7), .inl (G 0, 6, .inl (fun _ => 0))), ((u4 8), .inl (G 0, 6, .inl (fun _ => 0))), (q5, .inr (9, [.int 0, .int 0, .int 5, .ref (u8 0), .ref (u8 1), .ref (u8 2), .ref (u8 3), .ref (u8 4), .ref (u8 5)])), ((u8 0), .inl (G 0, 10, .inl (fun _ => 0))), ((u8 1), .inl (G 0, 10, .inl (fun _ => 0))), ((u8 2), .inl (G 0, 10, .inl (fun _ => 0))), ((u8 3), .inl (G 0, 6, .inl (fun _ => 0))), ((u8 4), .inl (G 0, 6, .inl (fun _ => 0))), ((u8 5), .inl (G 0, 6, .inl (fun _ => 0))), (q9, .inr (9, [.int 0, .int 0, .int 5, .ref (u12 0), .ref (u12 1), .ref (u12 2), .ref (u12 3), .ref (u12 4), .ref (u12 5)])), ((u12 0), .inl (G 0, 10, .inl (fun _ => 0))), ((u12 1), .inl (G 0, 10, .inl (fun _ => 0))), ((u12 2), .inl (G 0, 10, .inl (fun _ => 0))), ((u12 3), .inl (G 0, 6, .inl (fun _ => 0))), ((u12 4), .inl (G 0, 6, .inl (fun _ => 0))), ((u12 5), .inl (G 0, 6, .inl (fun _ => 0))), (q13, .inl (G 3, 2, .inr (.inr (.inr (.inr (va_up (va_up (fun _ => none) 0 (some q15)) 1 (some q20))))))), (q15, .inr (9, [.int 0, .int 0, .int 5, .ref (u18 0), .ref (u18 1), .ref (u18 2), .ref (u18 3), .ref (u18 4), .ref (u18 5)])), ((u18 0), .inl (G 0, 10, .inl (fun _ => 0))), ((u18 1), .inl (G 0, 10, .inl (fun _ => 0))), ((u18 2), .inl (G 0, 10, .inl (fun _ => 0))), ((u18 3), .inl (G 0, 6, .inl (fun _ => 0))), ((u18 4), .inl (G 0, 6, .inl (fun _ => 0))), ((u18 5), .inl (G 0, 6, .inl (fun _ => 0))), (q20, .inr (9, [.int 0, .int 0, .int 5, .ref (u23 0), .ref (u23 1), .ref (u23 2), .ref (u23 3), .ref (u23 4), .ref (u23 5)])), ((u23 0), .inl (G 0, 10, .inl (fun _ => 0))), ((u23 1), .inl (G 0, 10, .inl (fun _ => 0))), ((u23 2), .inl (G 0, 10, .inl (fun _ => 0))), ((u23 3), .inl (G 0, 6, .inl (fun _ => 0))), ((u23 4), .inl (G 0, 6, .inl (fun _ => 0))), ((u23 5), .inl (G 0, 6, .inl (fun _ => 0))), (q25, .inl (G 2, 2, .inl (fun _ => 0))), (q26, .inr (4, [.long 1, .ref (u29 0), .ref (u29 1)])), ((u29 0), .inl (G 1, 10, .inr (.inl (fun _ => 0)))), ((u29 1), .inl (G 1, 10, .inr (.inl (fun _ => 0))))]) (w1 := [(q30, .inr (0, [.long 1, .ref (u33 0), .ref (u33 1)])), ((u33 0), .inl (G 5, 11, .inr (.inr (.inr (.inr (fun ir => if ir < 11 then some (u34 ir) else none)))))), ((u33 1), .inl (G 4, 10, .inr (.inr (.inr (.inr (fun ir => if ir < 10 then some (u35 ir) else none)))))), ((u34 0), .inl (G 1, 70, .inr (.inl (fun _ => 0)))), ((u34 1), .inl (G 1, 70, .inr (.inl (fun _ => 0)))), ((u34 2), .inl (G 1, 70, .inr (.inl (fun _ => 0)))), ((u34 3), .inl (G 1, 70, .inr (.inl (fun _ => 0)))), ((u34 4), .inl (G 1, 70, .inr (.inl (fun _ => 0)))), ((u34 5), .inl (G 1, 70, .inr (.inl (fun _ => 0)))), ((u34 6), .inl (G 1, 70, .inr (.inl (fun _ => 0)))), ((u34 7), .inl (G 1, 70, .inr (.inl (fun _ => 0)))), ((u34 8), .inl (G 1, 70, .inr (.inl (fun _ => 0)))), ((u34 9), .inl (G 1, 70, .inr (.inl (fun _ => 0)))), ((u34 10), .inl (G 1, 70, .inr (.inl (fun _ => 0)))), ((u35 0), .inl (G 0, 70, .inl (fun _ => 0))), ((u35 1), .inl (G 0, 70, .inl (fun _ => 0))), ((u35 2), .inl (G 0, 70, .inl (fun _ => 0))), ((u35 3), .inl (G 0, 70, .inl (fun _ => 0))), ((u35 4), .inl (G 0, 70, .inl (fun _ => 0))), ((u35 5), .inl (G 0, 70, .inl (fun _ => 0))), ((u35 6), .inl (G 0, 70, .inl (fun _ => 0))), ((u35 7), .inl (G 0, 70, .inl (fun _ => 0))), ((u35 8), .inl (G 0, 70, .inl (fun _ => 0))), ((u35 9), .inl (G 0, 70, .inl (fun _ => 0)))]) hP hD [44] [0, 1, 2, 3, 4, 5, 6, 7, 8, 9, 10, 11, 12, 13, 14, 15, 16, 17, 18, 19, 20, 21, 22, 23, 24, 25, 26, 27, 28, 29, 30, 31, 32, 33, 34, 35, 36, 37, 38, 39, 40, 41, 42, 43] rfl rfl (by decide +kernel) (by decide +kernel) hk1 hFc hP1 hD1
        generalize H1 = H at hP hS ⊢
        obtain ⟨hP, hD⟩ := va_rls (ws' := [(h0, .inr (10, [.ref q1, .ref q5, .ref q9, .ref q13, .ref q25, .ref q26, .null, .null, .null, .null, .null, .null, .int 0, .int 0])), (q1, .inr (5, [.ref (u4 0), .ref (u4 1), .int 0, .int 0, .int 0, .int 0, .int 0, .int 0, .int 0, .int 0, .int 0, .int 0])), ((u4 0), .inr (7, [.int 0, .ref (u4 2)])), ((u4 2), .inl (G 0, 320, .inl (fun _ => 0))), ((u4 1), .inr (9, [.int 0, .int 0, .int 5, .ref (u4 3), .ref (u4 4), .ref (u4 5), .ref (u4 6), .ref (u4 7), .ref (u4 8)])), ((u4 3), .inl (G 0, 10, .inl (fun _ => 0))), ((u4 4), .inl (G 0, 10, .inl (fun _ => 0))), ((u4 5), .inl (G 0, 10, .inl (fun _ => 0))), ((u4 6), .inl (G 0, 6, .inl (fun _ => 0))), ((u4 7), .inl (G 0, 6, .inl (fun _ => 0))), ((u4 8), .inl (G 0, 6, .inl (fun _ => 0))), (q5, .inr (9, [.int 0, .int 0, .int 5, .ref (u8 0), .ref (u8 1), .ref (u8 2), .ref (u8 3), .ref (u8 4), .ref (u8 5)])), ((u8 0), .inl (G 0, 10, .inl (fun _ => 0))), ((u8 1), .inl (G 0, 10, .inl (fun _ => 0))), ((u8 2), .inl (G 0, 10, .inl (fun _ => 0))), ((u8 3), .inl (G 0, 6, .inl (fun _ => 0))), ((u8 4), .inl (G 0, 6, .inl (fun _ => 0))), ((u8 5), .inl (G 0, 6, .inl (fun _ => 0))), (q9, .inr (9, [.int 0, .int 0, .int 5, .ref (u12 0), .ref (u12 1), .ref (u12 2), .ref (u12 3), .ref (u12 4), .ref (u12 5)])), ((u12 0), .inl (G 0, 10, .inl (fun _ => 0))), ((u12 1), .inl (G 0, 10, .inl (fun _ => 0))), ((u12 2), .inl (G 0, 10, .inl (fun _ => 0))), ((u12 3), .inl (G 0, 6, .inl (fun _ => 0))), ((u12 4), .inl (G 0, 6, .inl (fun _ => 0))), ((u12 5), .inl (G 0, 6, .inl (fun _ => 0))), (q13, .inl (G 3, 2, .inr (.inr (.inr (.inr (va_up (va_up (fun _ => none) 0 (some q15)) 1 (some q20))))))), (q15, .inr (9, [.int 0, .int 0, .int 5, .ref (u18 0), .ref (u18 1), .ref (u18 2), .ref (u18 3), .ref (u18 4), .ref (u18 5)])), ((u18 0), .inl (G 0, 10, .inl (fun _ => 0))), ((u18 1), .inl (G 0, 10, .inl (fun _ => 0))), ((u18 2), .inl (G 0, 10, .inl (fun _ => 0))), ((u18 3), .inl (G 0, 6, .inl (fun _ => 0))), ((u18 4), .inl (G 0, 6, .inl (fun _ => 0))), ((u18 5), .inl (G 0, 6, .inl (fun _ => 0))), (q20, .inr (9, [.int 0, .int 0, .int 5, .ref (u23 0), .ref (u23 1), .ref (u23 2), .ref (u23 3), .ref (u23 4), .ref (u23 5)])), ((u23 0), .inl (G 0, 10, .inl (fun _ => 0))), ((u23 1), .inl (G 0, 10, .inl (fun _ => 0))), ((u23 2), .inl (G 0, 10, .inl (fun _ => 0))), ((u23 3), .inl (G 0, 6, .inl (fun _ => 0))), ((u23 4), .inl (G 0, 6, .inl (fun _ => 0))), ((u23 5), .inl (G 0, 6, .inl (fun _ => 0))), (q25, .inl (G 2, 2, .inl (fun _ => 0))), (q26, .inr (4, [.long 1, .ref (u29 0), .ref (u29 1)])), ((u29 0), .inl (G 1, 10, .inr (.inl (fun _ => 0)))), ((u29 1), .inl (G 1, 10, .inr (.inl (fun _ => 0)))), (q30, .inr (0, [.long 1, .ref (u33 0), .ref (u33 1)])), ((u33 0), .inl (G 5, 11, .inr (.inr (.inr (.inr (fun ir => if ir < 11 then some (u34 ir) else none)))))), ((u33 1), .inl (G 4, 10, .inr (.inr (.inr (.inr (fun ir => if ir < 10 then some (u35 ir) else none)))))), ((u34 0), .inl (G 1, 70, .inr (.inl (fun _ => 0)))), ((u34 1), .inl (G 1, 70, .inr (.inl (fun _ => 0)))), ((u34 2), .inl (G 1, 70, .inr (.inl (fun _ => 0)))), ((u34 3), .inl (G 1, 70, .inr (.inl (fun _ => 0)))), ((u34 4), .inl (G 1, 70, .inr (.inl (fun _ => 0)))), ((u34 5), .inl (G 1, 70, .inr (.inl (fun _ => 0)))), ((u34 6), .inl (G 1, 70, .inr (.inl (fun _ => 0)))), ((u34 7), .inl (G 1, 70, .inr (.inl (fun _ => 0)))), ((u34 8), .inl (G 1, 70, .inr (.inl (fun _ => 0)))), ((u34 9), .inl (G 1, 70, .inr (.inl (fun _ => 0)))), ((u34 10), .inl (G 1, 70, .inr (.inl (fun _ => 0)))), ((u35 0), .inl (G 0, 70, .inl (fun _ => 0))), ((u35 1), .inl (G 0, 70, .inl (fun _ => 0))), ((u35 2), .inl (G 0, 70, .inl (fun _ => 0))), ((u35 3), .inl (G 0, 70, .inl (fun _ => 0))), ((u35 4), .inl (G 0, 70, .inl (fun _ => 0))), ((u35 5), .inl (G 0, 70, .inl (fun _ => 0))), ((u35 6), .inl (G 0, 70, .inl (fun _ => 0))), ((u35 7), .inl (G 0, 70, .inl (fun _ => 0))), ((u35 8), .inl (G 0, 70, .inl (fun _ => 0))), ((u35 9), .inl (G 0, 70, .inl (fun _ => 0)))]) hP hD rfl
        refine W.widen (k := 67) (n := 2140) (Nat.le_of_ble_eq_true rfl) (Nat.le_of_ble_eq_true rfl) ?_
        refine va_putF (D := (dC, dI)) (ci := 10) (v := .ref q30) (ty := (.object "AsleepPass$Choice")) (C := RX10) (T := TX10) (N := 14) hx hb hg inG10 tyX10 tyX10_ok nmX10 hown hK.1 hP hD hS 0 rfl rfl 6 (Nat.le_of_ble_eq_true rfl) (hg _ wt_308) (fun _ h9 => h9) rfl hin rfl (by decide +kernel) rfl rfl (Nat.le_of_ble_eq_true rfl) dX10_init_97 (fun H locs hP hD hS => ?_)
        obtain ⟨hP, hD⟩ := va_rls (ws' := [(h0, .inr (10, [.ref q1, .ref q5, .ref q9, .ref q13, .ref q25, .ref q26, .ref q30, .null, .null, .null, .null, .null, .int 0, .int 0])), (q1, .inr (5, [.ref (u4 0), .ref (u4 1), .int 0, .int 0, .int 0, .int 0, .int 0, .int 0, .int 0, .int 0, .int 0, .int 0])), ((u4 0), .inr (7, [.int 0, .ref (u4 2)])), ((u4 2), .inl (G 0, 320, .inl (fun _ => 0))), ((u4 1), .inr (9, [.int 0, .int 0, .int 5, .ref (u4 3), .ref (u4 4), .ref (u4 5), .ref (u4 6), .ref (u4 7), .ref (u4 8)])), ((u4 3), .inl (G 0, 10, .inl (fun _ => 0))), ((u4 4), .inl (G 0, 10, .inl (fun _ => 0))), ((u4 5), .inl (G 0, 10, .inl (fun _ => 0))), ((u4 6), .inl (G 0, 6, .inl (fun _ => 0))), ((u4 7), .inl (G 0, 6, .inl (fun _ => 0))), ((u4 8), .inl (G 0, 6, .inl (fun _ => 0))), (q5, .inr (9, [.int 0, .int 0, .int 5, .ref (u8 0), .ref (u8 1), .ref (u8 2), .ref (u8 3), .ref (u8 4), .ref (u8 5)])), ((u8 0), .inl (G 0, 10, .inl (fun _ => 0))), ((u8 1), .inl (G 0, 10, .inl (fun _ => 0))), ((u8 2), .inl (G 0, 10, .inl (fun _ => 0))), ((u8 3), .inl (G 0, 6, .inl (fun _ => 0))), ((u8 4), .inl (G 0, 6, .inl (fun _ => 0))), ((u8 5), .inl (G 0, 6, .inl (fun _ => 0))), (q9, .inr (9, [.int 0, .int 0, .int 5, .ref (u12 0), .ref (u12 1), .ref (u12 2), .ref (u12 3), .ref (u12 4), .ref (u12 5)])), ((u12 0), .inl (G 0, 10, .inl (fun _ => 0))), ((u12 1), .inl (G 0, 10, .inl (fun _ => 0))), ((u12 2), .inl (G 0, 10, .inl (fun _ => 0))), ((u12 3), .inl (G 0, 6, .inl (fun _ => 0))), ((u12 4), .inl (G 0, 6, .inl (fun _ => 0))), ((u12 5), .inl (G 0, 6, .inl (fun _ => 0))), (q13, .inl (G 3, 2, .inr (.inr (.inr (.inr (va_up (va_up (fun _ => none) 0 (some q15)) 1 (some q20))))))), (q15, .inr (9, [.int 0, .int 0, .int 5, .ref (u18 0), .ref (u18 1), .ref (u18 2), .ref (u18 3), .ref (u18 4), .ref (u18 5)])), ((u18 0), .inl (G 0, 10, .inl (fun _ => 0))), ((u18 1), .inl (G 0, 10, .inl (fun _ => 0))), ((u18 2), .inl (G 0, 10, .inl (fun _ => 0))), ((u18 3), .inl (G 0, 6, .inl (fun _ => 0))), ((u18 4), .inl (G 0, 6, .inl (fun _ => 0))), ((u18 5), .inl (G 0, 6, .inl (fun _ => 0))), (q20, .inr (9, [.int 0, .int 0, .int 5, .ref (u23 0), .ref (u23 1), .ref (u23 2), .ref (u23 3), .ref (u23 4), .ref (u23 5)])), ((u23 0), .inl (G 0, 10, .inl (fun _ => 0))), ((u23 1), .inl (G 0, 10, .inl (fun _ => 0))), ((u23 2), .inl (G 0, 10, .inl (fun _ => 0))), ((u23 3), .inl (G 0, 6, .inl (fun _ => 0))), ((u23 4), .inl (G 0, 6, .inl (fun _ => 0))), ((u23 5), .inl (G 0, 6, .inl (fun _ => 0))), (q25, .inl (G 2, 2, .inl (fun _ => 0))), (q26, .inr (4, [.long 1, .ref (u29 0), .ref (u29 1)])), ((u29 0), .inl (G 1, 10, .inr (.inl (fun _ => 0)))), ((u29 1), .inl (G 1, 10, .inr (.inl (fun _ => 0)))), (q30, .inr (0, [.long 1, .ref (u33 0), .ref (u33 1)])), ((u33 0), .inl (G 5, 11, .inr (.inr (.inr (.inr (fun ir => if ir < 11 then some (u34 ir) else none)))))), ((u33 1), .inl (G 4, 10, .inr (.inr (.inr (.inr (fun ir => if ir < 10 then some (u35 ir) else none)))))), ((u34 0), .inl (G 1, 70, .inr (.inl (fun _ => 0)))), ((u34 1), .inl (G 1, 70, .inr (.inl (fun _ => 0)))), ((u34 2), .inl (G 1, 70, .inr (.inl (fun _ => 0)))), ((u34 3), .inl (G 1, 70, .inr (.inl (fun _ => 0)))), ((u34 4), .inl (G 1, 70, .inr (.inl (fun _ => 0)))), ((u34 5), .inl (G 1, 70, .inr (.inl (fun _ => 0)))), ((u34 6), .inl (G 1, 70, .inr (.inl (fun _ => 0)))), ((u34 7), .inl (G 1, 70, .inr (.inl (fun _ => 0)))), ((u34 8), .inl (G 1, 70, .inr (.inl (fun _ => 0)))), ((u34 9), .inl (G 1, 70, .inr (.inl (fun _ => 0)))), ((u34 10), .inl (G 1, 70, .inr (.inl (fun _ => 0)))), ((u35 0), .inl (G 0, 70, .inl (fun _ => 0))), ((u35 1), .inl (G 0, 70, .inl (fun _ => 0))), ((u35 2), .inl (G 0, 70, .inl (fun _ => 0))), ((u35 3), .inl (G 0, 70, .inl (fun _ => 0))), ((u35 4), .inl (G 0, 70, .inl (fun _ => 0))), ((u35 5), .inl (G 0, 70, .inl (fun _ => 0))), ((u35 6), .inl (G 0, 70, .inl (fun _ => 0))), ((u35 7), .inl (G 0, 70, .inl (fun _ => 0))), ((u35 8), .inl (G 0, 70, .inl (fun _ => 0))), ((u35 9), .inl (G 0, 70, .inl (fun _ => 0)))]) hP hD rfl
        refine lv_aload_n hx hb dX10_init_100 rfl (lv_at hl 1 rfl) ?_
        refine va_new (ci := 1) (fs := [.int 0, .int 0, .int 0]) (C := RX1) (T := TX1) (N := 3) hx hb hg inG1 tyX1 tyX1_ok hown (hg _ wt_192) (hg _ wt_193) (hg _ wt_7) hK.1 hP hD hS hA rfl nwX1 (Nat.le_of_ble_eq_true rfl) (Nat.le_of_ble_eq_true rfl) dX10_init_101 (fun q36 H hP hD hS => ?_)
        obtain ⟨hP, hD⟩ := va_rls (ws' := [(h0, .inr (10, [.ref q1, .ref q5, .ref q9, .ref q13, .ref q25, .ref q26, .ref q30, .null, .null, .null, .null, .null, .int 0, .int 0])), (q1, .inr (5, [.ref (u4 0), .ref (u4 1), .int 0, .int 0, .int 0, .int 0, .int 0, .int 0, .int 0, .int 0, .int 0, .int 0])), ((u4 0), .inr (7, [.int 0, .ref (u4 2)])), ((u4 2), .inl (G 0, 320, .inl (fun _ => 0))), ((u4 1), .inr (9, [.int 0, .int 0, .int 5, .ref (u4 3), .ref (u4 4), .ref (u4 5), .ref (u4 6), .ref (u4 7), .ref (u4 8)])), ((u4 3), .inl (G 0, 10, .inl (fun _ => 0))), ((u4 4), .inl (G 0, 10, .inl (fun _ => 0))), ((u4 5), .inl (G 0, 10, .inl (fun _ => 0))), ((u4 6), .inl (G 0, 6, .inl (fun _ => 0))), ((u4 7), .inl (G 0, 6, .inl (fun _ => 0))), ((u4 8), .inl (G 0, 6, .inl (fun _ => 0))), (q5, .inr (9, [.int 0, .int 0, .int 5, .ref (u8 0), .ref (u8 1), .ref (u8 2), .ref (u8 3), .ref (u8 4), .ref (u8 5)])), ((u8 0), .inl (G 0, 10, .inl (fun _ => 0))), ((u8 1), .inl (G 0, 10, .inl (fun _ => 0))), ((u8 2), .inl (G 0, 10, .inl (fun _ => 0))), ((u8 3), .inl (G 0, 6, .inl (fun _ => 0))), ((u8 4), .inl (G 0, 6, .inl (fun _ => 0))), ((u8 5), .inl (G 0, 6, .inl (fun _ => 0))), (q9, .inr (9, [.int 0, .int 0, .int 5, .ref (u12 0), .ref (u12 1), .ref (u12 2), .ref (u12 3), .ref (u12 4), .ref (u12 5)])), ((u12 0), .inl (G 0, 10, .inl (fun _ => 0))), ((u12 1), .inl (G 0, 10, .inl (fun _ => 0))), ((u12 2), .inl (G 0, 10, .inl (fun _ => 0))), ((u12 3), .inl (G 0, 6, .inl (fun _ => 0))), ((u12 4), .inl (G 0, 6, .inl (fun _ => 0))), ((u12 5), .inl (G 0, 6, .inl (fun _ => 0))), (q13, .inl (G 3, 2, .inr (.inr (.inr (.inr (va_up (va_up (fun _ => none) 0 (some q15)) 1 (some q20))))))), (q15, .inr (9, [.int 0, .int 0, .int 5, .ref (u18 0), .ref (u18 1), .ref (u18 2), .ref (u18 3), .ref (u18 4), .ref (u18 5)])), ((u18 0), .inl (G 0, 10, .inl (fun _ => 0))), ((u18 1), .inl (G 0, 10, .inl (fun _ => 0))), ((u18 2), .inl (G 0, 10, .inl (fun _ => 0))), ((u18 3), .inl (G 0, 6, .inl (fun _ => 0))), ((u18 4), .inl (G 0, 6, .inl (fun _ => 0))), ((u18 5), .inl (G 0, 6, .inl (fun _ => 0))), (q20, .inr (9, [.int 0, .int 0, .int 5, .ref (u23 0), .ref (u23 1), .ref (u23 2), .ref (u23 3), .ref (u23 4), .ref (u23 5)])), ((u23 0), .inl (G 0, 10, .inl (fun _ => 0))), ((u23 1), .inl (G 0, 10, .inl (fun _ => 0))), ((u23 2), .inl (G 0, 10, .inl (fun _ => 0))), ((u23 3), .inl (G 0, 6, .inl (fun _ => 0))), ((u23 4), .inl (G 0, 6, .inl (fun _ => 0))), ((u23 5), .inl (G 0, 6, .inl (fun _ => 0))), (q25, .inl (G 2, 2, .inl (fun _ => 0))), (q26, .inr (4, [.long 1, .ref (u29 0), .ref (u29 1)])), ((u29 0), .inl (G 1, 10, .inr (.inl (fun _ => 0)))), ((u29 1), .inl (G 1, 10, .inr (.inl (fun _ => 0)))), (q30, .inr (0, [.long 1, .ref (u33 0), .ref (u33 1)])), ((u33 0), .inl (G 5, 11, .inr (.inr (.inr (.inr (fun ir => if ir < 11 then some (u34 ir) else none)))))), ((u33 1), .inl (G 4, 10, .inr (.inr (.inr (.inr (fun ir => if ir < 10 then some (u35 ir) else none)))))), ((u34 0), .inl (G 1, 70, .inr (.inl (fun _ => 0)))), ((u34 1), .inl (G 1, 70, .inr (.inl (fun _ => 0)))), ((u34 2), .inl (G 1, 70, .inr (.inl (fun _ => 0)))), ((u34 3), .inl (G 1, 70, .inr (.inl (fun _ => 0)))), ((u34 4), .inl (G 1, 70, .inr (.inl (fun _ => 0)))), ((u34 5), .inl (G 1, 70, .inr (.inl (fun _ => 0)))), ((u34 6), .inl (G 1, 70, .inr (.inl (fun _ => 0)))), ((u34 7), .inl (G 1, 70, .inr (.inl (fun _ => 0)))), ((u34 8), .inl (G 1, 70, .inr (.inl (fun _ => 0)))), ((u34 9), .inl (G 1, 70, .inr (.inl (fun _ => 0)))), ((u34 10), .inl (G 1, 70, .inr (.inl (fun _ => 0)))), ((u35 0), .inl (G 0, 70, .inl (fun _ => 0))), ((u35 1), .inl (G 0, 70, .inl (fun _ => 0))), ((u35 2), .inl (G 0, 70, .inl (fun _ => 0))), ((u35 3), .inl (G 0, 70, .inl (fun _ => 0))), ((u35 4), .inl (G 0, 70, .inl (fun _ => 0))), ((u35 5), .inl (G 0, 70, .inl (fun _ => 0))), ((u35 6), .inl (G 0, 70, .inl (fun _ => 0))), ((u35 7), .inl (G 0, 70, .inl (fun _ => 0))), ((u35 8), .inl (G 0, 70, .inl (fun _ => 0))), ((u35 9), .inl (G 0, 70, .inl (fun _ => 0))), (q36, .inr (1, [.int 0, .int 0, .int 0]))]) hP hD rfl
        refine W.widen (k := 68) (n := 2143) (Nat.le_of_ble_eq_true rfl) (Nat.le_of_ble_eq_true rfl) ?_
        refine lv_dup hx hb dX10_init_104 rfl ?_
        obtain ⟨hPc, hDc, hFc⟩ := va_sub3 (ws' := [(q36, .inr (1, [.int 0, .int 0, .int 0]))]) hP hD hS hA [68] (by decide +kernel) rfl
        refine va_callv (va_runIN (As := []) (rest := [.ref q36, .ref h0]) ⟨hx, hb, hml, hown, hg⟩ (c_X1_init l dC dI G _ q36) (kwIN hg hK mfX1_init wn_194 ⟨Nat.le_of_ble_eq_true rfl, Nat.le_of_ble_eq_true rfl⟩) (preSW hK hPc hDc) rfl rfl hl.1 rfl (lv_room (Nat.le_of_ble_eq_true rfl)) dX10_init_105 ⟨Nat.le_of_ble_eq_true rfl, Nat.le_of_ble_eq_true rfl⟩) hS (fun q _ h => hFc q h) hFc (fun ur37 t H1 locs ht hvm w38 hB hz1 hk1 hS => ?_)
        obtain ⟨u39, rfl⟩ : ∃ z, z = ur37 := ⟨_, rfl⟩
        obtain ⟨hP1, hD1⟩ := hB
        rw [ht] at hP1
        obtain ⟨hP, hD⟩ := va_join (wr := [(h0, .inr (10, [.ref q1, .ref q5, .ref q9, .ref q13, .ref q25, .ref q26, .ref q30, .null, .null, .null, .null, .null, .int 0, .int 0])), (q1, .inr (5, [.ref (u4 0), .ref (u4 1), .int 0, .int 0, .int 0, .int 0, .int 0, .int 0, .int 0, .int 0, .int 0, .int 0])), ((u4 0), .inr (7, [.int 0, .ref (u4 2)])), ((u4 2), .inl (G 0, 320, .inl (fun _ => 0))), ((u4 1), .inr (9, [.int 0, .int 0, .int 5, .ref (u4 3), .ref (u4 4), .ref (u4 5), .ref (u4 6), .ref (u4 7), .ref (u4 8)])), ((u4 3), .inl (G 0, 10, .inl (fun _ => 0))), ((u4 4), .inl (G 0, 10, .inl (fun _ => 0))), ((u4 5), .inl (G 0, 10, .inl (fun _ => 0))), ((u4 6), .inl (G 0, 6, .inl (fun _ => 0))), ((u4 7), .inl (G 0, 6, .inl (fun _ => 0))), ((u4 8), .inl (G 0, 6, .inl (fun _ => 0))), (q5, .inr (9, [.int 0, .int 0, .int 5, .ref (u8 0), .ref (u8 1), .ref (u8 2), .ref (u8 3), .ref (u8 4), .ref (u8 5)])), ((u8 0), .inl (G 0, 10, .inl (fun _ => 0))), ((u8 1), .inl (G 0, 10, .inl (fun _ => 0))), ((u8 2), .inl (G 0, 10, .inl (fun _ => 0))), ((u8 3), .inl (G 0, 6, .inl (fun _ => 0))), ((u8 4), .inl (G 0, 6, .inl (fun _ => 0))), ((u8 5), .inl (G 0, 6, .inl (fun _ => 0))), (q9, .inr (9, [.int 0, .int 0, .int 5, .ref (u12 0), .ref (u12 1), .ref (u12 2), .ref (u12 3), .ref (u12 4), .ref (u12 5)])), ((u12 0), .inl (G 0, 10, .inl (fun _ => 0))), ((u12 1), .inl (G 0, 10, .inl (fun _ => 0))), ((u12 2), .inl (G 0, 10, .inl (fun _ => 0))), ((u12 3), .inl (G 0, 6, .inl (fun _ => 0))), ((u12 4), .inl (G 0, 6, .inl (fun _ => 0))), ((u12 5), .inl (G 0, 6, .inl (fun _ => 0))), (q13, .inl (G 3, 2, .inr (.inr (.inr (.inr (va_up (va_up (fun _ => none) 0 (some q15)) 1 (some q20))))))), (q15, .inr (9, [.int 0, .int 0, .int 5, .ref (u18 0), .ref (u18 1), .ref (u18 2), .ref (u18 3), .ref (u18 4), .ref (u18 5)])), ((u18 0), .inl (G 0, 10, .inl (fun _ => 0))), ((u18 1), .inl (G 0, 10, .inl (fun _ => 0))), ((u18 2), .inl (G 0, 10, .inl (fun _ => 0))), ((u18 3), .inl (G 0, 6, .inl (fun _ => 0))), ((u18 4), .inl (G 0, 6, .inl (fun _ => 0))), ((u18 5), .inl (G 0, 6, .inl (fun _ => 0))), (q20, .inr (9, [.int 0, .int 0, .int 5, .ref (u23 0), .ref (u23 1), .ref (u23 2), .ref (u23 3), .ref (u23 4), .ref (u23 5)])), ((u23 0), .inl (G 0, 10, .inl (fun _ => 0))), ((u23 1), .inl (G 0, 10, .inl (fun _ => 0))), ((u23 2), .inl (G 0, 10, .inl (fun _ => 0))), ((u23 3), .inl (G 0, 6, .inl (fun _ => 0))), ((u23 4), .inl (G 0, 6, .inl (fun _ => 0))), ((u23 5), .inl (G 0, 6, .inl (fun _ => 0))), (q25, .inl (G 2, 2, .inl (fun _ => 0))), (q26, .inr (4, [.long 1, .ref (u29 0), .ref (u29 1)])), ((u29 0), .inl (G 1, 10, .inr (.inl (fun _ => 0)))), ((u29 1), .inl (G 1, 10, .inr (.inl (fun _ => 0)))), (q30, .inr (0, [.long 1, .ref (u33 0), .ref (u33 1)])), ((u33 0), .inl (G 5, 11, .inr (.inr (.inr (.inr (fun ir => if ir < 11 then some (u34 ir) else none)))))), ((u33 1), .inl (G 4, 10, .inr (.inr (.inr (.inr (fun ir => if ir < 10 then some (u35 ir) else none)))))), ((u34 0), .inl (G 1, 70, .inr (.inl (fun _ => 0)))), ((u34 1), .inl (G 1, 70, .inr (.inl (fun _ => 0)))), ((u34 2), .inl (G 1, 70, .inr (.inl (fun _ => 0)))), ((u34 3), .inl (G 1, 70, .inr (.inl (fun _ => 0)))), ((u34 4), .inl (G 1, 70, .inr (.inl (fun _ => 0)))), ((u34 5), .inl (G 1, 70, .inr (.inl (fun _ => 0)))), ((u34 6), .inl (G 1, 70, .inr (.inl (fun _ => 0)))), ((u34 7), .inl (G 1, 70, .inr (.inl (fun _ => 0)))), ((u34 8), .inl (G 1, 70, .inr (.inl (fun _ => 0)))), ((u34 9), .inl (G 1, 70, .inr (.inl (fun _ => 0)))), ((u34 10), .inl (G 1, 70, .inr (.inl (fun _ => 0)))), ((u35 0), .inl (G 0, 70, .inl (fun _ => 0))), ((u35 1), .inl (G 0, 70, .inl (fun _ => 0))), ((u35 2), .inl (G 0, 70, .inl (fun _ => 0))), ((u35 3), .inl (G 0, 70, .inl (fun _ => 0))), ((u35 4), .inl (G 0, 70, .inl (fun _ => 0))), ((u35 5), .inl (G 0, 70, .inl (fun _ => 0))), ((u35 6), .inl (G 0, 70, .inl (fun _ => 0))), ((u35 7), .inl (G 0, 70, .inl (fun _ => 0))), ((u35 8), .inl (G 0, 70, .inl (fun _ => 0))), ((u35 9), .inl (G 0, 70, .inl (fun _ => 0)))]) (w1 := [(q36, .inr (1, [.int 0, .int 0, .int 0]))]) hP hD [68] [0, 1, 2, 3, 4, 5, 6, 7, 8, 9, 10, 11, 12, 13, 14, 15, 16, 17, 18, 19, 20, 21, 22, 23, 24, 25, 26, 27, 28, 29, 30, 31, 32, 33, 34, 35, 36, 37, 38, 39, 40, 41, 42, 43, 44, 45, 46, 47, 48, 49, 50, 51, 52, 53, 54, 55, 56, 57, 58, 59, 60, 61, 62, 63, 64, 65, 66, 67] rfl rfl (by decide +kernel) (by decide +kernel) hk1 hFc hP1 hD1
        generalize H1 = H at hP hS ⊢
        obtain ⟨hP, hD⟩ := va_rls (ws' := [(h0, .inr (10, [.ref q1, .ref q5, .ref q9, .ref q13, .ref q25, .ref q26, .ref q30, .null, .null, .null, .null, .null, .int 0, .int 0])), (q1, .inr (5, [.ref (u4 0), .ref (u4 1), .int 0, .int 0, .int 0, .int 0, .int 0, .int 0, .int 0, .int 0, .int 0, .int 0])), ((u4 0), .inr (7, [.int 0, .ref (u4 2)])), ((u4 2), .inl (G 0, 320, .inl (fun _ => 0))), ((u4 1), .inr (9, [.int 0, .int 0, .int 5, .ref (u4 3), .ref (u4 4), .ref (u4 5), .ref (u4 6), .ref (u4 7), .ref (u4 8)])), ((u4 3), .inl (G 0, 10, .inl (fun _ => 0))), ((u4 4), .inl (G 0, 10, .inl (fun _ => 0))), ((u4 5), .inl (G 0, 10, .inl (fun _ => 0))), ((u4 6), .inl (G 0, 6, .inl (fun _ => 0))), ((u4 7), .inl (G 0, 6, .inl (fun _ => 0))), ((u4 8), .inl (G 0, 6, .inl (fun _ => 0))), (q5, .inr (9, [.int 0, .int 0, .int 5, .ref (u8 0), .ref (u8 1), .ref (u8 2), .ref (u8 3), .ref (u8 4), .ref (u8 5)])), ((u8 0), .inl (G 0, 10, .inl (fun _ => 0))), ((u8 1), .inl (G 0, 10, .inl (fun _ => 0))), ((u8 2), .inl (G 0, 10, .inl (fun _ => 0))), ((u8 3), .inl (G 0, 6, .inl (fun _ => 0))), ((u8 4), .inl (G 0, 6, .inl (fun _ => 0))), ((u8 5), .inl (G 0, 6, .inl (fun _ => 0))), (q9, .inr (9, [.int 0, .int 0, .int 5, .ref (u12 0), .ref (u12 1), .ref (u12 2), .ref (u12 3), .ref (u12 4), .ref (u12 5)])), ((u12 0), .inl (G 0, 10, .inl (fun _ => 0))), ((u12 1), .inl (G 0, 10, .inl (fun _ => 0))), ((u12 2), .inl (G 0, 10, .inl (fun _ => 0))), ((u12 3), .inl (G 0, 6, .inl (fun _ => 0))), ((u12 4), .inl (G 0, 6, .inl (fun _ => 0))), ((u12 5), .inl (G 0, 6, .inl (fun _ => 0))), (q13, .inl (G 3, 2, .inr (.inr (.inr (.inr (va_up (va_up (fun _ => none) 0 (some q15)) 1 (some q20))))))), (q15, .inr (9, [.int 0, .int 0, .int 5, .ref (u18 0), .ref (u18 1), .ref (u18 2), .ref (u18 3), .ref (u18 4), .ref (u18 5)])), ((u18 0), .inl (G 0, 10, .inl (fun _ => 0))), ((u18 1), .inl (G 0, 10, .inl (fun _ => 0))), ((u18 2), .inl (G 0, 10, .inl (fun _ => 0))), ((u18 3), .inl (G 0, 6, .inl (fun _ => 0))), ((u18 4), .inl (G 0, 6, .inl (fun _ => 0))), ((u18 5), .inl (G 0, 6, .inl (fun _ => 0))), (q20, .inr (9, [.int 0, .int 0, .int 5, .ref (u23 0), .ref (u23 1), .ref (u23 2), .ref (u23 3), .ref (u23 4), .ref (u23 5)])), ((u23 0), .inl (G 0, 10, .inl (fun _ => 0))), ((u23 1), .inl (G 0, 10, .inl (fun _ => 0))), ((u23 2), .inl (G 0, 10, .inl (fun _ => 0))), ((u23 3), .inl (G 0, 6, .inl (fun _ => 0))), ((u23 4), .inl (G 0, 6, .inl (fun _ => 0))), ((u23 5), .inl (G 0, 6, .inl (fun _ => 0))), (q25, .inl (G 2, 2, .inl (fun _ => 0))), (q26, .inr (4, [.long 1, .ref (u29 0), .ref (u29 1)])), ((u29 0), .inl (G 1, 10, .inr (.inl (fun _ => 0)))), ((u29 1), .inl (G 1, 10, .inr (.inl (fun _ => 0)))), (q30, .inr (0, [.long 1, .ref (u33 0), .ref (u33 1)])), ((u33 0), .inl (G 5, 11, .inr (.inr (.inr (.inr (fun ir => if ir < 11 then some (u34 ir) else none)))))), ((u33 1), .inl (G 4, 10, .inr (.inr (.inr (.inr (fun ir => if ir < 10 then some (u35 ir) else none)))))), ((u34 0), .inl (G 1, 70, .inr (.inl (fun _ => 0)))), ((u34 1), .inl (G 1, 70, .inr (.inl (fun _ => 0)))), ((u34 2), .inl (G 1, 70, .inr (.inl (fun _ => 0)))), ((u34 3), .inl (G 1, 70, .inr (.inl (fun _ => 0)))), ((u34 4), .inl (G 1, 70, .inr (.inl (fun _ => 0)))), ((u34 5), .inl (G 1, 70, .inr (.inl (fun _ => 0)))), ((u34 6), .inl (G 1, 70, .inr (.inl (fun _ => 0)))), ((u34 7), .inl (G 1, 70, .inr (.inl (fun _ => 0)))), ((u34 8), .inl (G 1, 70, .inr (.inl (fun _ => 0)))), ((u34 9), .inl (G 1, 70, .inr (.inl (fun _ => 0)))), ((u34 10), .inl (G 1, 70, .inr (.inl (fun _ => 0)))), ((u35 0), .inl (G 0, 70, .inl (fun _ => 0))), ((u35 1), .inl (G 0, 70, .inl (fun _ => 0))), ((u35 2), .inl (G 0, 70, .inl (fun _ => 0))), ((u35 3), .inl (G 0, 70, .inl (fun _ => 0))), ((u35 4), .inl (G 0, 70, .inl (fun _ => 0))), ((u35 5), .inl (G 0, 70, .inl (fun _ => 0))), ((u35 6), .inl (G 0, 70, .inl (fun _ => 0))), ((u35 7), .inl (G 0, 70, .inl (fun _ => 0))), ((u35 8), .inl (G 0, 70, .inl (fun _ => 0))), ((u35 9), .inl (G 0, 70, .inl (fun _ => 0))), (q36, .inr (1, [.int 0, .int 0, .int 0]))]) hP hD rfl
        refine W.widen (k := 68) (n := 2143) (Nat.le_of_ble_eq_true rfl) (Nat.le_of_ble_eq_true rfl) ?_
        refine va_putF (D := (dC, dI)) (ci := 10) (v := .ref q36) (ty := (.object "AsleepPass$Crossing")) (C := RX10) (T := TX10) (N := 14) hx hb hg inG10 tyX10 tyX10_ok nmX10 hown hK.1 hP hD hS 0 rfl rfl 7 (Nat.le_of_ble_eq_true rfl) (hg _ wt_309) (fun _ h9 => h9) rfl hin rfl (by decide +kernel) rfl rfl (Nat.le_of_ble_eq_true rfl) dX10_init_108 (fun H locs hP hD hS => ?_)
        obtain ⟨hP, hD⟩ := va_rls (ws' := [(h0, .inr (10, [.ref q1, .ref q5, .ref q9, .ref q13, .ref q25, .ref q26, .ref q30, .ref q36, .null, .null, .null, .null, .int 0, .int 0])), (q1, .inr (5, [.ref (u4 0), .ref (u4 1), .int 0, .int 0, .int 0, .int 0, .int 0, .int 0, .int 0, .int 0, .int 0, .int 0])), ((u4 0), .inr (7, [.int 0, .ref (u4 2)])), ((u4 2), .inl (G 0, 320, .inl (fun _ => 0))), ((u4 1), .inr (9, [.int 0, .int 0, .int 5, .ref (u4 3), .ref (u4 4), .ref (u4 5), .ref (u4 6), .ref (u4 7), .ref (u4 8)])), ((u4 3), .inl (G 0, 10, .inl (fun _ => 0))), ((u4 4), .inl (G 0, 10, .inl (fun _ => 0))), ((u4 5), .inl (G 0, 10, .inl (fun _ => 0))), ((u4 6), .inl (G 0, 6, .inl (fun _ => 0))), ((u4 7), .inl (G 0, 6, .inl (fun _ => 0))), ((u4 8), .inl (G 0, 6, .inl (fun _ => 0))), (q5, .inr (9, [.int 0, .int 0, .int 5, .ref (u8 0), .ref (u8 1), .ref (u8 2), .ref (u8 3), .ref (u8 4), .ref (u8 5)])), ((u8 0), .inl (G 0, 10, .inl (fun _ => 0))), ((u8 1), .inl (G 0, 10, .inl (fun _ => 0))), ((u8 2), .inl (G 0, 10, .inl (fun _ => 0))), ((u8 3), .inl (G 0, 6, .inl (fun _ => 0))), ((u8 4), .inl (G 0, 6, .inl (fun _ => 0))), ((u8 5), .inl (G 0, 6, .inl (fun _ => 0))), (q9, .inr (9, [.int 0, .int 0, .int 5, .ref (u12 0), .ref (u12 1), .ref (u12 2), .ref (u12 3), .ref (u12 4), .ref (u12 5)])), ((u12 0), .inl (G 0, 10, .inl (fun _ => 0))), ((u12 1), .inl (G 0, 10, .inl (fun _ => 0))), ((u12 2), .inl (G 0, 10, .inl (fun _ => 0))), ((u12 3), .inl (G 0, 6, .inl (fun _ => 0))), ((u12 4), .inl (G 0, 6, .inl (fun _ => 0))), ((u12 5), .inl (G 0, 6, .inl (fun _ => 0))), (q13, .inl (G 3, 2, .inr (.inr (.inr (.inr (va_up (va_up (fun _ => none) 0 (some q15)) 1 (some q20))))))), (q15, .inr (9, [.int 0, .int 0, .int 5, .ref (u18 0), .ref (u18 1), .ref (u18 2), .ref (u18 3), .ref (u18 4), .ref (u18 5)])), ((u18 0), .inl (G 0, 10, .inl (fun _ => 0))), ((u18 1), .inl (G 0, 10, .inl (fun _ => 0))), ((u18 2), .inl (G 0, 10, .inl (fun _ => 0))), ((u18 3), .inl (G 0, 6, .inl (fun _ => 0))), ((u18 4), .inl (G 0, 6, .inl (fun _ => 0))), ((u18 5), .inl (G 0, 6, .inl (fun _ => 0))), (q20, .inr (9, [.int 0, .int 0, .int 5, .ref (u23 0), .ref (u23 1), .ref (u23 2), .ref (u23 3), .ref (u23 4), .ref (u23 5)])), ((u23 0), .inl (G 0, 10, .inl (fun _ => 0))), ((u23 1), .inl (G 0, 10, .inl (fun _ => 0))), ((u23 2), .inl (G 0, 10, .inl (fun _ => 0))), ((u23 3), .inl (G 0, 6, .inl (fun _ => 0))), ((u23 4), .inl (G 0, 6, .inl (fun _ => 0))), ((u23 5), .inl (G 0, 6, .inl (fun _ => 0))), (q25, .inl (G 2, 2, .inl (fun _ => 0))), (q26, .inr (4, [.long 1, .ref (u29 0), .ref (u29 1)])), ((u29 0), .inl (G 1, 10, .inr (.inl (fun _ => 0)))), ((u29 1), .inl (G 1, 10, .inr (.inl (fun _ => 0)))), (q30, .inr (0, [.long 1, .ref (u33 0), .ref (u33 1)])), ((u33 0), .inl (G 5, 11, .inr (.inr (.inr (.inr (fun ir => if ir < 11 then some (u34 ir) else none)))))), ((u33 1), .inl (G 4, 10, .inr (.inr (.inr (.inr (fun ir => if ir < 10 then some (u35 ir) else none)))))), ((u34 0), .inl (G 1, 70, .inr (.inl (fun _ => 0)))), ((u34 1), .inl (G 1, 70, .inr (.inl (fun _ => 0)))), ((u34 2), .inl (G 1, 70, .inr (.inl (fun _ => 0)))), ((u34 3), .inl (G 1, 70, .inr (.inl (fun _ => 0)))), ((u34 4), .inl (G 1, 70, .inr (.inl (fun _ => 0)))), ((u34 5), .inl (G 1, 70, .inr (.inl (fun _ => 0)))), ((u34 6), .inl (G 1, 70, .inr (.inl (fun _ => 0)))), ((u34 7), .inl (G 1, 70, .inr (.inl (fun _ => 0)))), ((u34 8), .inl (G 1, 70, .inr (.inl (fun _ => 0)))), ((u34 9), .inl (G 1, 70, .inr (.inl (fun _ => 0)))), ((u34 10), .inl (G 1, 70, .inr (.inl (fun _ => 0)))), ((u35 0), .inl (G 0, 70, .inl (fun _ => 0))), ((u35 1), .inl (G 0, 70, .inl (fun _ => 0))), ((u35 2), .inl (G 0, 70, .inl (fun _ => 0))), ((u35 3), .inl (G 0, 70, .inl (fun _ => 0))), ((u35 4), .inl (G 0, 70, .inl (fun _ => 0))), ((u35 5), .inl (G 0, 70, .inl (fun _ => 0))), ((u35 6), .inl (G 0, 70, .inl (fun _ => 0))), ((u35 7), .inl (G 0, 70, .inl (fun _ => 0))), ((u35 8), .inl (G 0, 70, .inl (fun _ => 0))), ((u35 9), .inl (G 0, 70, .inl (fun _ => 0))), (q36, .inr (1, [.int 0, .int 0, .int 0]))]) hP hD rfl
        refine lv_aload_n hx hb dX10_init_111 rfl (lv_at hl 1 rfl) ?_
        refine va_new (ci := 2) (fs := [.int 0, .null, .null, .null, .null]) (C := RX2) (T := TX2) (N := 5) hx hb hg inG2 tyX2 tyX2_ok hown (hg _ wt_211) (hg _ wt_212) (hg _ wt_8) hK.1 hP hD hS hA rfl nwX2 (Nat.le_of_ble_eq_true rfl) (Nat.le_of_ble_eq_true rfl) dX10_init_112 (fun q40 H hP hD hS => ?_)
        obtain ⟨hP, hD⟩ := va_rls (ws' := [(h0, .inr (10, [.ref q1, .ref q5, .ref q9, .ref q13, .ref q25, .ref q26, .ref q30, .ref q36, .null, .null, .null, .null, .int 0, .int 0])), (q1, .inr (5, [.ref (u4 0), .ref (u4 1), .int 0, .int 0, .int 0, .int 0, .int 0, .int 0, .int 0, .int 0, .int 0, .int 0])), ((u4 0), .inr (7, [.int 0, .ref (u4 2)])), ((u4 2), .inl (G 0, 320, .inl (fun _ => 0))), ((u4 1), .inr (9, [.int 0, .int 0, .int 5, .ref (u4 3), .ref (u4 4), .ref (u4 5), .ref (u4 6), .ref (u4 7), .ref (u4 8)])), ((u4 3), .inl (G 0, 10, .inl (fun _ => 0))), ((u4 4), .inl (G 0, 10, .inl (fun _ => 0))), ((u4 5), .inl (G 0, 10, .inl (fun _ => 0))), ((u4 6), .inl (G 0, 6, .inl (fun _ => 0))), ((u4 7), .inl (G 0, 6, .inl (fun _ => 0))), ((u4 8), .inl (G 0, 6, .inl (fun _ => 0))), (q5, .inr (9, [.int 0, .int 0, .int 5, .ref (u8 0), .ref (u8 1), .ref (u8 2), .ref (u8 3), .ref (u8 4), .ref (u8 5)])), ((u8 0), .inl (G 0, 10, .inl (fun _ => 0))), ((u8 1), .inl (G 0, 10, .inl (fun _ => 0))), ((u8 2), .inl (G 0, 10, .inl (fun _ => 0))), ((u8 3), .inl (G 0, 6, .inl (fun _ => 0))), ((u8 4), .inl (G 0, 6, .inl (fun _ => 0))), ((u8 5), .inl (G 0, 6, .inl (fun _ => 0))), (q9, .inr (9, [.int 0, .int 0, .int 5, .ref (u12 0), .ref (u12 1), .ref (u12 2), .ref (u12 3), .ref (u12 4), .ref (u12 5)])), ((u12 0), .inl (G 0, 10, .inl (fun _ => 0))), ((u12 1), .inl (G 0, 10, .inl (fun _ => 0))), ((u12 2), .inl (G 0, 10, .inl (fun _ => 0))), ((u12 3), .inl (G 0, 6, .inl (fun _ => 0))), ((u12 4), .inl (G 0, 6, .inl (fun _ => 0))), ((u12 5), .inl (G 0, 6, .inl (fun _ => 0))), (q13, .inl (G 3, 2, .inr (.inr (.inr (.inr (va_up (va_up (fun _ => none) 0 (some q15)) 1 (some q20))))))), (q15, .inr (9, [.int 0, .int 0, .int 5, .ref (u18 0), .ref (u18 1), .ref (u18 2), .ref (u18 3), .ref (u18 4), .ref (u18 5)])), ((u18 0), .inl (G 0, 10, .inl (fun _ => 0))), ((u18 1), .inl (G 0, 10, .inl (fun _ => 0))), ((u18 2), .inl (G 0, 10, .inl (fun _ => 0))), ((u18 3), .inl (G 0, 6, .inl (fun _ => 0))), ((u18 4), .inl (G 0, 6, .inl (fun _ => 0))), ((u18 5), .inl (G 0, 6, .inl (fun _ => 0))), (q20, .inr (9, [.int 0, .int 0, .int 5, .ref (u23 0), .ref (u23 1), .ref (u23 2), .ref (u23 3), .ref (u23 4), .ref (u23 5)])), ((u23 0), .inl (G 0, 10, .inl (fun _ => 0))), ((u23 1), .inl (G 0, 10, .inl (fun _ => 0))), ((u23 2), .inl (G 0, 10, .inl (fun _ => 0))), ((u23 3), .inl (G 0, 6, .inl (fun _ => 0))), ((u23 4), .inl (G 0, 6, .inl (fun _ => 0))), ((u23 5), .inl (G 0, 6, .inl (fun _ => 0))), (q25, .inl (G 2, 2, .inl (fun _ => 0))), (q26, .inr (4, [.long 1, .ref (u29 0), .ref (u29 1)])), ((u29 0), .inl (G 1, 10, .inr (.inl (fun _ => 0)))), ((u29 1), .inl (G 1, 10, .inr (.inl (fun _ => 0)))), (q30, .inr (0, [.long 1, .ref (u33 0), .ref (u33 1)])), ((u33 0), .inl (G 5, 11, .inr (.inr (.inr (.inr (fun ir => if ir < 11 then some (u34 ir) else none)))))), ((u33 1), .inl (G 4, 10, .inr (.inr (.inr (.inr (fun ir => if ir < 10 then some (u35 ir) else none)))))), ((u34 0), .inl (G 1, 70, .inr (.inl (fun _ => 0)))), ((u34 1), .inl (G 1, 70, .inr (.inl (fun _ => 0)))), ((u34 2), .inl (G 1, 70, .inr (.inl (fun _ => 0)))), ((u34 3), .inl (G 1, 70, .inr (.inl (fun _ => 0)))), ((u34 4), .inl (G 1, 70, .inr (.inl (fun _ => 0)))), ((u34 5), .inl (G 1, 70, .inr (.inl (fun _ => 0)))), ((u34 6), .inl (G 1, 70, .inr (.inl (fun _ => 0)))), ((u34 7), .inl (G 1, 70, .inr (.inl (fun _ => 0)))), ((u34 8), .inl (G 1, 70, .inr (.inl (fun _ => 0)))), ((u34 9), .inl (G 1, 70, .inr (.inl (fun _ => 0)))), ((u34 10), .inl (G 1, 70, .inr (.inl (fun _ => 0)))), ((u35 0), .inl (G 0, 70, .inl (fun _ => 0))), ((u35 1), .inl (G 0, 70, .inl (fun _ => 0))), ((u35 2), .inl (G 0, 70, .inl (fun _ => 0))), ((u35 3), .inl (G 0, 70, .inl (fun _ => 0))), ((u35 4), .inl (G 0, 70, .inl (fun _ => 0))), ((u35 5), .inl (G 0, 70, .inl (fun _ => 0))), ((u35 6), .inl (G 0, 70, .inl (fun _ => 0))), ((u35 7), .inl (G 0, 70, .inl (fun _ => 0))), ((u35 8), .inl (G 0, 70, .inl (fun _ => 0))), ((u35 9), .inl (G 0, 70, .inl (fun _ => 0))), (q36, .inr (1, [.int 0, .int 0, .int 0])), (q40, .inr (2, [.int 0, .null, .null, .null, .null]))]) hP hD rfl
        refine W.widen (k := 69) (n := 2148) (Nat.le_of_ble_eq_true rfl) (Nat.le_of_ble_eq_true rfl) ?_
        refine lv_dup hx hb dX10_init_115 rfl ?_
        obtain ⟨hPc, hDc, hFc⟩ := va_sub3 (ws' := [(q40, .inr (2, [.int 0, .null, .null, .null, .null]))]) hP hD hS hA [69] (by decide +kernel) rfl
        refine va_callv (va_runIN (As := []) (rest := [.ref q40, .ref h0]) ⟨hx, hb, hml, hown, hg⟩ (c_X2_init l dC dI G _ q40) (kwIN hg hK mfX2_init wn_213 ⟨Nat.le_of_ble_eq_true rfl, Nat.le_of_ble_eq_true rfl⟩) (preSW hK hPc hDc) rfl rfl hl.1 rfl (lv_room (Nat.le_of_ble_eq_true rfl)) dX10_init_116 ⟨Nat.le_of_ble_eq_true rfl, Nat.le_of_ble_eq_true rfl⟩) hS (fun q _ h => hFc q h) hFc (fun ur41 t H1 locs ht hvm w42 hB hz1 hk1 hS => ?_)
        obtain ⟨u43, rfl⟩ : ∃ z, z = ur41 := ⟨_, rfl⟩
        obtain ⟨hP1, hD1⟩ := hB
        rw [ht] at hP1
        obtain ⟨hP, hD⟩ := va_join (wr := [(h0, .inr (10, [.ref q1, .ref q5, .ref q9, .ref q13, .ref q25, .ref q26, .ref q30, .ref q36, .null, .null, .null, .null, .int 0, .int 0])), (q1, .inr (5, [.ref (u4 0), .ref (u4 1), .int 0, .int 0, .int 0, .int 0, .int 0, .int 0, .int 0, .int 0, .int 0, .int 0])), ((u4 0), .inr (7, [.int 0, .ref (u4 2)])), ((u4 2), .inl (G 0, 320, .inl (fun _ => 0))), ((u4 1), .inr (9, [.int 0, .int 0, .int 5, .ref (u4 3), .ref (u4 4), .ref (u4 5), .ref (u4 6), .ref (u4 7), .ref (u4 8)])), ((u4 3), .inl (G 0, 10, .inl (fun _ => 0))), ((u4 4), .inl (G 0, 10, .inl (fun _ => 0))), ((u4 5), .inl (G 0, 10, .inl (fun _ => 0))), ((u4 6), .inl (G 0, 6, .inl (fun _ => 0))), ((u4 7), .inl (G 0, 6, .inl (fun _ => 0))), ((u4 8), .inl (G 0, 6, .inl (fun _ => 0))), (q5, .inr (9, [.int 0, .int 0, .int 5, .ref (u8 0), .ref (u8 1), .ref (u8 2), .ref (u8 3), .ref (u8 4), .ref (u8 5)])), ((u8 0), .inl (G 0, 10, .inl (fun _ => 0))), ((u8 1), .inl (G 0, 10, .inl (fun _ => 0))), ((u8 2), .inl (G 0, 10, .inl (fun _ => 0))), ((u8 3), .inl (G 0, 6, .inl (fun _ => 0))), ((u8 4), .inl (G 0, 6, .inl (fun _ => 0))), ((u8 5), .inl (G 0, 6, .inl (fun _ => 0))), (q9, .inr (9, [.int 0, .int 0, .int 5, .ref (u12 0), .ref (u12 1), .ref (u12 2), .ref (u12 3), .ref (u12 4), .ref (u12 5)])), ((u12 0), .inl (G 0, 10, .inl (fun _ => 0))), ((u12 1), .inl (G 0, 10, .inl (fun _ => 0))), ((u12 2), .inl (G 0, 10, .inl (fun _ => 0))), ((u12 3), .inl (G 0, 6, .inl (fun _ => 0))), ((u12 4), .inl (G 0, 6, .inl (fun _ => 0))), ((u12 5), .inl (G 0, 6, .inl (fun _ => 0))), (q13, .inl (G 3, 2, .inr (.inr (.inr (.inr (va_up (va_up (fun _ => none) 0 (some q15)) 1 (some q20))))))), (q15, .inr (9, [.int 0, .int 0, .int 5, .ref (u18 0), .ref (u18 1), .ref (u18 2), .ref (u18 3), .ref (u18 4), .ref (u18 5)])), ((u18 0), .inl (G 0, 10, .inl (fun _ => 0))), ((u18 1), .inl (G 0, 10, .inl (fun _ => 0))), ((u18 2), .inl (G 0, 10, .inl (fun _ => 0))), ((u18 3), .inl (G 0, 6, .inl (fun _ => 0))), ((u18 4), .inl (G 0, 6, .inl (fun _ => 0))), ((u18 5), .inl (G 0, 6, .inl (fun _ => 0))), (q20, .inr (9, [.int 0, .int 0, .int 5, .ref (u23 0), .ref (u23 1), .ref (u23 2), .ref (u23 3), .ref (u23 4), .ref (u23 5)])), ((u23 0), .inl (G 0, 10, .inl (fun _ => 0))), ((u23 1), .inl (G 0, 10, .inl (fun _ => 0))), ((u23 2), .inl (G 0, 10, .inl (fun _ => 0))), ((u23 3), .inl (G 0, 6, .inl (fun _ => 0))), ((u23 4), .inl (G 0, 6, .inl (fun _ => 0))), ((u23 5), .inl (G 0, 6, .inl (fun _ => 0))), (q25, .inl (G 2, 2, .inl (fun _ => 0))), (q26, .inr (4, [.long 1, .ref (u29 0), .ref (u29 1)])), ((u29 0), .inl (G 1, 10, .inr (.inl (fun _ => 0)))), ((u29 1), .inl (G 1, 10, .inr (.inl (fun _ => 0)))), (q30, .inr (0, [.long 1, .ref (u33 0), .ref (u33 1)])), ((u33 0), .inl (G 5, 11, .inr (.inr (.inr (.inr (fun ir => if ir < 11 then some (u34 ir) else none)))))), ((u33 1), .inl (G 4, 10, .inr (.inr (.inr (.inr (fun ir => if ir < 10 then some (u35 ir) else none)))))), ((u34 0), .inl (G 1, 70, .inr (.inl (fun _ => 0)))), ((u34 1), .inl (G 1, 70, .inr (.inl (fun _ => 0)))), ((u34 2), .inl (G 1, 70, .inr (.inl (fun _ => 0)))), ((u34 3), .inl (G 1, 70, .inr (.inl (fun _ => 0)))), ((u34 4), .inl (G 1, 70, .inr (.inl (fun _ => 0)))), ((u34 5), .inl (G 1, 70, .inr (.inl (fun _ => 0)))), ((u34 6), .inl (G 1, 70, .inr (.inl (fun _ => 0)))), ((u34 7), .inl (G 1, 70, .inr (.inl (fun _ => 0)))), ((u34 8), .inl (G 1, 70, .inr (.inl (fun _ => 0)))), ((u34 9), .inl (G 1, 70, .inr (.inl (fun _ => 0)))), ((u34 10), .inl (G 1, 70, .inr (.inl (fun _ => 0)))), ((u35 0), .inl (G 0, 70, .inl (fun _ => 0))), ((u35 1), .inl (G 0, 70, .inl (fun _ => 0))), ((u35 2), .inl (G 0, 70, .inl (fun _ => 0))), ((u35 3), .inl (G 0, 70, .inl (fun _ => 0))), ((u35 4), .inl (G 0, 70, .inl (fun _ => 0))), ((u35 5), .inl (G 0, 70, .inl (fun _ => 0))), ((u35 6), .inl (G 0, 70, .inl (fun _ => 0))), ((u35 7), .inl (G 0, 70, .inl (fun _ => 0))), ((u35 8), .inl (G 0, 70, .inl (fun _ => 0))), ((u35 9), .inl (G 0, 70, .inl (fun _ => 0))), (q36, .inr (1, [.int 0, .int 0, .int 0]))]) (w1 := [(q40, .inr (2, [.int 0, .ref (u43 0), .ref (u43 1), .ref (u43 2), .ref (u43 3)])), ((u43 0), .inl (G 0, 8, .inl (fun _ => 0))), ((u43 1), .inl (G 0, 8, .inl (fun _ => 0))), ((u43 2), .inl (G 0, 8, .inl (fun _ => 0))), ((u43 3), .inl (G 0, 8, .inl (fun _ => 0)))]) hP hD [69] [0, 1, 2, 3, 4, 5, 6, 7, 8, 9, 10, 11, 12, 13, 14, 15, 16, 17, 18, 19, 20, 21, 22, 23, 24, 25, 26, 27, 28, 29, 30, 31, 32, 33, 34, 35, 36, 37, 38, 39, 40, 41, 42, 43, 44, 45, 46, 47, 48, 49, 50, 51, 52, 53, 54, 55, 56, 57, 58, 59, 60, 61, 62, 63, 64, 65, 66, 67, 68] rfl rfl (by decide +kernel) (by decide +kernel) hk1 hFc hP1 hD1
        generalize H1 = H at hP hS ⊢
        obtain ⟨hP, hD⟩ := va_rls (ws' := [(h0, .inr (10, [.ref q1, .ref q5, .ref q9, .ref q13, .ref q25, .ref q26, .ref q30, .ref q36, .null, .null, .null, .null, .int 0, .int 0])), (q1, .inr (5, [.ref (u4 0), .ref (u4 1), .int 0, .int 0, .int 0, .int 0, .int 0, .int 0, .int 0, .int 0, .int 0, .int 0])), ((u4 0), .inr (7, [.int 0, .ref (u4 2)])), ((u4 2), .inl (G 0, 320, .inl (fun _ => 0))), ((u4 1), .inr (9, [.int 0, .int 0, .int 5, .ref (u4 3), .ref (u4 4), .ref (u4 5), .ref (u4 6), .ref (u4 7), .ref (u4 8)])), ((u4 3), .inl (G 0, 10, .inl (fun _ => 0))), ((u4 4), .inl (G 0, 10, .inl (fun _ => 0))), ((u4 5), .inl (G 0, 10, .inl (fun _ => 0))), ((u4 6), .inl (G 0, 6, .inl (fun _ => 0))), ((u4 7), .inl (G 0, 6, .inl (fun _ => 0))), ((u4 8), .inl (G 0, 6, .inl (fun _ => 0))), (q5, .inr (9, [.int 0, .int 0, .int 5, .ref (u8 0), .ref (u8 1), .ref (u8 2), .ref (u8 3), .ref (u8 4), .ref (u8 5)])), ((u8 0), .inl (G 0, 10, .inl (fun _ => 0))), ((u8 1), .inl (G 0, 10, .inl (fun _ => 0))), ((u8 2), .inl (G 0, 10, .inl (fun _ => 0))), ((u8 3), .inl (G 0, 6, .inl (fun _ => 0))), ((u8 4), .inl (G 0, 6, .inl (fun _ => 0))), ((u8 5), .inl (G 0, 6, .inl (fun _ => 0))), (q9, .inr (9, [.int 0, .int 0, .int 5, .ref (u12 0), .ref (u12 1), .ref (u12 2), .ref (u12 3), .ref (u12 4), .ref (u12 5)])), ((u12 0), .inl (G 0, 10, .inl (fun _ => 0))), ((u12 1), .inl (G 0, 10, .inl (fun _ => 0))), ((u12 2), .inl (G 0, 10, .inl (fun _ => 0))), ((u12 3), .inl (G 0, 6, .inl (fun _ => 0))), ((u12 4), .inl (G 0, 6, .inl (fun _ => 0))), ((u12 5), .inl (G 0, 6, .inl (fun _ => 0))), (q13, .inl (G 3, 2, .inr (.inr (.inr (.inr (va_up (va_up (fun _ => none) 0 (some q15)) 1 (some q20))))))), (q15, .inr (9, [.int 0, .int 0, .int 5, .ref (u18 0), .ref (u18 1), .ref (u18 2), .ref (u18 3), .ref (u18 4), .ref (u18 5)])), ((u18 0), .inl (G 0, 10, .inl (fun _ => 0))), ((u18 1), .inl (G 0, 10, .inl (fun _ => 0))), ((u18 2), .inl (G 0, 10, .inl (fun _ => 0))), ((u18 3), .inl (G 0, 6, .inl (fun _ => 0))), ((u18 4), .inl (G 0, 6, .inl (fun _ => 0))), ((u18 5), .inl (G 0, 6, .inl (fun _ => 0))), (q20, .inr (9, [.int 0, .int 0, .int 5, .ref (u23 0), .ref (u23 1), .ref (u23 2), .ref (u23 3), .ref (u23 4), .ref (u23 5)])), ((u23 0), .inl (G 0, 10, .inl (fun _ => 0))), ((u23 1), .inl (G 0, 10, .inl (fun _ => 0))), ((u23 2), .inl (G 0, 10, .inl (fun _ => 0))), ((u23 3), .inl (G 0, 6, .inl (fun _ => 0))), ((u23 4), .inl (G 0, 6, .inl (fun _ => 0))), ((u23 5), .inl (G 0, 6, .inl (fun _ => 0))), (q25, .inl (G 2, 2, .inl (fun _ => 0))), (q26, .inr (4, [.long 1, .ref (u29 0), .ref (u29 1)])), ((u29 0), .inl (G 1, 10, .inr (.inl (fun _ => 0)))), ((u29 1), .inl (G 1, 10, .inr (.inl (fun _ => 0)))), (q30, .inr (0, [.long 1, .ref (u33 0), .ref (u33 1)])), ((u33 0), .inl (G 5, 11, .inr (.inr (.inr (.inr (fun ir => if ir < 11 then some (u34 ir) else none)))))), ((u33 1), .inl (G 4, 10, .inr (.inr (.inr (.inr (fun ir => if ir < 10 then some (u35 ir) else none)))))), ((u34 0), .inl (G 1, 70, .inr (.inl (fun _ => 0)))), ((u34 1), .inl (G 1, 70, .inr (.inl (fun _ => 0)))), ((u34 2), .inl (G 1, 70, .inr (.inl (fun _ => 0)))), ((u34 3), .inl (G 1, 70, .inr (.inl (fun _ => 0)))), ((u34 4), .inl (G 1, 70, .inr (.inl (fun _ => 0)))), ((u34 5), .inl (G 1, 70, .inr (.inl (fun _ => 0)))), ((u34 6), .inl (G 1, 70, .inr (.inl (fun _ => 0)))), ((u34 7), .inl (G 1, 70, .inr (.inl (fun _ => 0)))), ((u34 8), .inl (G 1, 70, .inr (.inl (fun _ => 0)))), ((u34 9), .inl (G 1, 70, .inr (.inl (fun _ => 0)))), ((u34 10), .inl (G 1, 70, .inr (.inl (fun _ => 0)))), ((u35 0), .inl (G 0, 70, .inl (fun _ => 0))), ((u35 1), .inl (G 0, 70, .inl (fun _ => 0))), ((u35 2), .inl (G 0, 70, .inl (fun _ => 0))), ((u35 3), .inl (G 0, 70, .inl (fun _ => 0))), ((u35 4), .inl (G 0, 70, .inl (fun _ => 0))), ((u35 5), .inl (G 0, 70, .inl (fun _ => 0))), ((u35 6), .inl (G 0, 70, .inl (fun _ => 0))), ((u35 7), .inl (G 0, 70, .inl (fun _ => 0))), ((u35 8), .inl (G 0, 70, .inl (fun _ => 0))), ((u35 9), .inl (G 0, 70, .inl (fun _ => 0))), (q36, .inr (1, [.int 0, .int 0, .int 0])), (q40, .inr (2, [.int 0, .ref (u43 0), .ref (u43 1), .ref (u43 2), .ref (u43 3)])), ((u43 0), .inl (G 0, 8, .inl (fun _ => 0))), ((u43 1), .inl (G 0, 8, .inl (fun _ => 0))), ((u43 2), .inl (G 0, 8, .inl (fun _ => 0))), ((u43 3), .inl (G 0, 8, .inl (fun _ => 0)))]) hP hD rfl
        refine W.widen (k := 73) (n := 2180) (Nat.le_of_ble_eq_true rfl) (Nat.le_of_ble_eq_true rfl) ?_
        refine va_putF (D := (dC, dI)) (ci := 10) (v := .ref q40) (ty := (.object "AsleepPass$Learnt")) (C := RX10) (T := TX10) (N := 14) hx hb hg inG10 tyX10 tyX10_ok nmX10 hown hK.1 hP hD hS 0 rfl rfl 8 (Nat.le_of_ble_eq_true rfl) (hg _ wt_310) (fun _ h9 => h9) rfl hin rfl (by decide +kernel) rfl rfl (Nat.le_of_ble_eq_true rfl) dX10_init_119 (fun H locs hP hD hS => ?_)
        obtain ⟨hP, hD⟩ := va_rls (ws' := [(h0, .inr (10, [.ref q1, .ref q5, .ref q9, .ref q13, .ref q25, .ref q26, .ref q30, .ref q36, .ref q40, .null, .null, .null, .int 0, .int 0])), (q1, .inr (5, [.ref (u4 0), .ref (u4 1), .int 0, .int 0, .int 0, .int 0, .int 0, .int 0, .int 0, .int 0, .int 0, .int 0])), ((u4 0), .inr (7, [.int 0, .ref (u4 2)])), ((u4 2), .inl (G 0, 320, .inl (fun _ => 0))), ((u4 1), .inr (9, [.int 0, .int 0, .int 5, .ref (u4 3), .ref (u4 4), .ref (u4 5), .ref (u4 6), .ref (u4 7), .ref (u4 8)])), ((u4 3), .inl (G 0, 10, .inl (fun _ => 0))), ((u4 4), .inl (G 0, 10, .inl (fun _ => 0))), ((u4 5), .inl (G 0, 10, .inl (fun _ => 0))), ((u4 6), .inl (G 0, 6, .inl (fun _ => 0))), ((u4 7), .inl (G 0, 6, .inl (fun _ => 0))), ((u4 8), .inl (G 0, 6, .inl (fun _ => 0))), (q5, .inr (9, [.int 0, .int 0, .int 5, .ref (u8 0), .ref (u8 1), .ref (u8 2), .ref (u8 3), .ref (u8 4), .ref (u8 5)])), ((u8 0), .inl (G 0, 10, .inl (fun _ => 0))), ((u8 1), .inl (G 0, 10, .inl (fun _ => 0))), ((u8 2), .inl (G 0, 10, .inl (fun _ => 0))), ((u8 3), .inl (G 0, 6, .inl (fun _ => 0))), ((u8 4), .inl (G 0, 6, .inl (fun _ => 0))), ((u8 5), .inl (G 0, 6, .inl (fun _ => 0))), (q9, .inr (9, [.int 0, .int 0, .int 5, .ref (u12 0), .ref (u12 1), .ref (u12 2), .ref (u12 3), .ref (u12 4), .ref (u12 5)])), ((u12 0), .inl (G 0, 10, .inl (fun _ => 0))), ((u12 1), .inl (G 0, 10, .inl (fun _ => 0))), ((u12 2), .inl (G 0, 10, .inl (fun _ => 0))), ((u12 3), .inl (G 0, 6, .inl (fun _ => 0))), ((u12 4), .inl (G 0, 6, .inl (fun _ => 0))), ((u12 5), .inl (G 0, 6, .inl (fun _ => 0))), (q13, .inl (G 3, 2, .inr (.inr (.inr (.inr (va_up (va_up (fun _ => none) 0 (some q15)) 1 (some q20))))))), (q15, .inr (9, [.int 0, .int 0, .int 5, .ref (u18 0), .ref (u18 1), .ref (u18 2), .ref (u18 3), .ref (u18 4), .ref (u18 5)])), ((u18 0), .inl (G 0, 10, .inl (fun _ => 0))), ((u18 1), .inl (G 0, 10, .inl (fun _ => 0))), ((u18 2), .inl (G 0, 10, .inl (fun _ => 0))), ((u18 3), .inl (G 0, 6, .inl (fun _ => 0))), ((u18 4), .inl (G 0, 6, .inl (fun _ => 0))), ((u18 5), .inl (G 0, 6, .inl (fun _ => 0))), (q20, .inr (9, [.int 0, .int 0, .int 5, .ref (u23 0), .ref (u23 1), .ref (u23 2), .ref (u23 3), .ref (u23 4), .ref (u23 5)])), ((u23 0), .inl (G 0, 10, .inl (fun _ => 0))), ((u23 1), .inl (G 0, 10, .inl (fun _ => 0))), ((u23 2), .inl (G 0, 10, .inl (fun _ => 0))), ((u23 3), .inl (G 0, 6, .inl (fun _ => 0))), ((u23 4), .inl (G 0, 6, .inl (fun _ => 0))), ((u23 5), .inl (G 0, 6, .inl (fun _ => 0))), (q25, .inl (G 2, 2, .inl (fun _ => 0))), (q26, .inr (4, [.long 1, .ref (u29 0), .ref (u29 1)])), ((u29 0), .inl (G 1, 10, .inr (.inl (fun _ => 0)))), ((u29 1), .inl (G 1, 10, .inr (.inl (fun _ => 0)))), (q30, .inr (0, [.long 1, .ref (u33 0), .ref (u33 1)])), ((u33 0), .inl (G 5, 11, .inr (.inr (.inr (.inr (fun ir => if ir < 11 then some (u34 ir) else none)))))), ((u33 1), .inl (G 4, 10, .inr (.inr (.inr (.inr (fun ir => if ir < 10 then some (u35 ir) else none)))))), ((u34 0), .inl (G 1, 70, .inr (.inl (fun _ => 0)))), ((u34 1), .inl (G 1, 70, .inr (.inl (fun _ => 0)))), ((u34 2), .inl (G 1, 70, .inr (.inl (fun _ => 0)))), ((u34 3), .inl (G 1, 70, .inr (.inl (fun _ => 0)))), ((u34 4), .inl (G 1, 70, .inr (.inl (fun _ => 0)))), ((u34 5), .inl (G 1, 70, .inr (.inl (fun _ => 0)))), ((u34 6), .inl (G 1, 70, .inr (.inl (fun _ => 0)))), ((u34 7), .inl (G 1, 70, .inr (.inl (fun _ => 0)))), ((u34 8), .inl (G 1, 70, .inr (.inl (fun _ => 0)))), ((u34 9), .inl (G 1, 70, .inr (.inl (fun _ => 0)))), ((u34 10), .inl (G 1, 70, .inr (.inl (fun _ => 0)))), ((u35 0), .inl (G 0, 70, .inl (fun _ => 0))), ((u35 1), .inl (G 0, 70, .inl (fun _ => 0))), ((u35 2), .inl (G 0, 70, .inl (fun _ => 0))), ((u35 3), .inl (G 0, 70, .inl (fun _ => 0))), ((u35 4), .inl (G 0, 70, .inl (fun _ => 0))), ((u35 5), .inl (G 0, 70, .inl (fun _ => 0))), ((u35 6), .inl (G 0, 70, .inl (fun _ => 0))), ((u35 7), .inl (G 0, 70, .inl (fun _ => 0))), ((u35 8), .inl (G 0, 70, .inl (fun _ => 0))), ((u35 9), .inl (G 0, 70, .inl (fun _ => 0))), (q36, .inr (1, [.int 0, .int 0, .int 0])), (q40, .inr (2, [.int 0, .ref (u43 0), .ref (u43 1), .ref (u43 2), .ref (u43 3)])), ((u43 0), .inl (G 0, 8, .inl (fun _ => 0))), ((u43 1), .inl (G 0, 8, .inl (fun _ => 0))), ((u43 2), .inl (G 0, 8, .inl (fun _ => 0))), ((u43 3), .inl (G 0, 8, .inl (fun _ => 0)))]) hP hD rfl
        refine lv_aload_n hx hb dX10_init_122 rfl (lv_at hl 1 rfl) ?_
        refine va_new (ci := 3) (fs := [.int 0, .null, .null]) (C := RX3) (T := TX3) (N := 3) hx hb hg inG3 tyX3 tyX3_ok hown (hg _ wt_234) (hg _ wt_235) (hg _ wt_9) hK.1 hP hD hS hA rfl nwX3 (Nat.le_of_ble_eq_true rfl) (Nat.le_of_ble_eq_true rfl) dX10_init_123 (fun q44 H hP hD hS => ?_)
        obtain ⟨hP, hD⟩ := va_rls (ws' := [(h0, .inr (10, [.ref q1, .ref q5, .ref q9, .ref q13, .ref q25, .ref q26, .ref q30, .ref q36, .ref q40, .null, .null, .null, .int 0, .int 0])), (q1, .inr (5, [.ref (u4 0), .ref (u4 1), .int 0, .int 0, .int 0, .int 0, .int 0, .int 0, .int 0, .int 0, .int 0, .int 0])), ((u4 0), .inr (7, [.int 0, .ref (u4 2)])), ((u4 2), .inl (G 0, 320, .inl (fun _ => 0))), ((u4 1), .inr (9, [.int 0, .int 0, .int 5, .ref (u4 3), .ref (u4 4), .ref (u4 5), .ref (u4 6), .ref (u4 7), .ref (u4 8)])), ((u4 3), .inl (G 0, 10, .inl (fun _ => 0))), ((u4 4), .inl (G 0, 10, .inl (fun _ => 0))), ((u4 5), .inl (G 0, 10, .inl (fun _ => 0))), ((u4 6), .inl (G 0, 6, .inl (fun _ => 0))), ((u4 7), .inl (G 0, 6, .inl (fun _ => 0))), ((u4 8), .inl (G 0, 6, .inl (fun _ => 0))), (q5, .inr (9, [.int 0, .int 0, .int 5, .ref (u8 0), .ref (u8 1), .ref (u8 2), .ref (u8 3), .ref (u8 4), .ref (u8 5)])), ((u8 0), .inl (G 0, 10, .inl (fun _ => 0))), ((u8 1), .inl (G 0, 10, .inl (fun _ => 0))), ((u8 2), .inl (G 0, 10, .inl (fun _ => 0))), ((u8 3), .inl (G 0, 6, .inl (fun _ => 0))), ((u8 4), .inl (G 0, 6, .inl (fun _ => 0))), ((u8 5), .inl (G 0, 6, .inl (fun _ => 0))), (q9, .inr (9, [.int 0, .int 0, .int 5, .ref (u12 0), .ref (u12 1), .ref (u12 2), .ref (u12 3), .ref (u12 4), .ref (u12 5)])), ((u12 0), .inl (G 0, 10, .inl (fun _ => 0))), ((u12 1), .inl (G 0, 10, .inl (fun _ => 0))), ((u12 2), .inl (G 0, 10, .inl (fun _ => 0))), ((u12 3), .inl (G 0, 6, .inl (fun _ => 0))), ((u12 4), .inl (G 0, 6, .inl (fun _ => 0))), ((u12 5), .inl (G 0, 6, .inl (fun _ => 0))), (q13, .inl (G 3, 2, .inr (.inr (.inr (.inr (va_up (va_up (fun _ => none) 0 (some q15)) 1 (some q20))))))), (q15, .inr (9, [.int 0, .int 0, .int 5, .ref (u18 0), .ref (u18 1), .ref (u18 2), .ref (u18 3), .ref (u18 4), .ref (u18 5)])), ((u18 0), .inl (G 0, 10, .inl (fun _ => 0))), ((u18 1), .inl (G 0, 10, .inl (fun _ => 0))), ((u18 2), .inl (G 0, 10, .inl (fun _ => 0))), ((u18 3), .inl (G 0, 6, .inl (fun _ => 0))), ((u18 4), .inl (G 0, 6, .inl (fun _ => 0))), ((u18 5), .inl (G 0, 6, .inl (fun _ => 0))), (q20, .inr (9, [.int 0, .int 0, .int 5, .ref (u23 0), .ref (u23 1), .ref (u23 2), .ref (u23 3), .ref (u23 4), .ref (u23 5)])), ((u23 0), .inl (G 0, 10, .inl (fun _ => 0))), ((u23 1), .inl (G 0, 10, .inl (fun _ => 0))), ((u23 2), .inl (G 0, 10, .inl (fun _ => 0))), ((u23 3), .inl (G 0, 6, .inl (fun _ => 0))), ((u23 4), .inl (G 0, 6, .inl (fun _ => 0))), ((u23 5), .inl (G 0, 6, .inl (fun _ => 0))), (q25, .inl (G 2, 2, .inl (fun _ => 0))), (q26, .inr (4, [.long 1, .ref (u29 0), .ref (u29 1)])), ((u29 0), .inl (G 1, 10, .inr (.inl (fun _ => 0)))), ((u29 1), .inl (G 1, 10, .inr (.inl (fun _ => 0)))), (q30, .inr (0, [.long 1, .ref (u33 0), .ref (u33 1)])), ((u33 0), .inl (G 5, 11, .inr (.inr (.inr (.inr (fun ir => if ir < 11 then some (u34 ir) else none)))))), ((u33 1), .inl (G 4, 10, .inr (.inr (.inr (.inr (fun ir => if ir < 10 then some (u35 ir) else none)))))), ((u34 0), .inl (G 1, 70, .inr (.inl (fun _ => 0)))), ((u34 1), .inl (G 1, 70, .inr (.inl (fun _ => 0)))), ((u34 2), .inl (G 1, 70, .inr (.inl (fun _ => 0)))), ((u34 3), .inl (G 1, 70, .inr (.inl (fun _ => 0)))), ((u34 4), .inl (G 1, 70, .inr (.inl (fun _ => 0)))), ((u34 5), .inl (G 1, 70, .inr (.inl (fun _ => 0)))), ((u34 6), .inl (G 1, 70, .inr (.inl (fun _ => 0)))), ((u34 7), .inl (G 1, 70, .inr (.inl (fun _ => 0)))), ((u34 8), .inl (G 1, 70, .inr (.inl (fun _ => 0)))), ((u34 9), .inl (G 1, 70, .inr (.inl (fun _ => 0)))), ((u34 10), .inl (G 1, 70, .inr (.inl (fun _ => 0)))), ((u35 0), .inl (G 0, 70, .inl (fun _ => 0))), ((u35 1), .inl (G 0, 70, .inl (fun _ => 0))), ((u35 2), .inl (G 0, 70, .inl (fun _ => 0))), ((u35 3), .inl (G 0, 70, .inl (fun _ => 0))), ((u35 4), .inl (G 0, 70, .inl (fun _ => 0))), ((u35 5), .inl (G 0, 70, .inl (fun _ => 0))), ((u35 6), .inl (G 0, 70, .inl (fun _ => 0))), ((u35 7), .inl (G 0, 70, .inl (fun _ => 0))), ((u35 8), .inl (G 0, 70, .inl (fun _ => 0))), ((u35 9), .inl (G 0, 70, .inl (fun _ => 0))), (q36, .inr (1, [.int 0, .int 0, .int 0])), (q40, .inr (2, [.int 0, .ref (u43 0), .ref (u43 1), .ref (u43 2), .ref (u43 3)])), ((u43 0), .inl (G 0, 8, .inl (fun _ => 0))), ((u43 1), .inl (G 0, 8, .inl (fun _ => 0))), ((u43 2), .inl (G 0, 8, .inl (fun _ => 0))), ((u43 3), .inl (G 0, 8, .inl (fun _ => 0))), (q44, .inr (3, [.int 0, .null, .null]))]) hP hD rfl
        refine W.widen (k := 74) (n := 2183) (Nat.le_of_ble_eq_true rfl) (Nat.le_of_ble_eq_true rfl) ?_
        refine lv_dup hx hb dX10_init_126 rfl ?_
        obtain ⟨hPc, hDc, hFc⟩ := va_sub3 (ws' := [(q44, .inr (3, [.int 0, .null, .null]))]) hP hD hS hA [74] (by decide +kernel) rfl
        refine va_callv (va_runIN (As := []) (rest := [.ref q44, .ref h0]) ⟨hx, hb, hml, hown, hg⟩ (c_X3_init l dC dI G _ q44) (kwIN hg hK mfX3_init wn_236 ⟨Nat.le_of_ble_eq_true rfl, Nat.le_of_ble_eq_true rfl⟩) (preSW hK hPc hDc) rfl rfl hl.1 rfl (lv_room (Nat.le_of_ble_eq_true rfl)) dX10_init_127 ⟨Nat.le_of_ble_eq_true rfl, Nat.le_of_ble_eq_true rfl⟩) hS (fun q _ h => hFc q h) hFc (fun ur45 t H1 locs ht hvm w46 hB hz1 hk1 hS => ?_)
        obtain ⟨u47, rfl⟩ : ∃ z, z = ur45 := ⟨_, rfl⟩
        obtain ⟨hP1, hD1⟩ := hB
        rw [ht] at hP1
        obtain ⟨hP, hD⟩ := va_join (wr := [(h0, .inr (10, [.ref q1, .ref q5, .ref q9, .ref q13, .ref q25, .ref q26, .ref q30, .ref q36, .ref q40, .null, .null, .null, .int 0, .int 0])), (q1, .inr (5, [.ref (u4 0), .ref (u4 1), .int 0, .int 0, .int 0, .int 0, .int 0, .int 0, .int 0, .int 0, .int 0, .int 0])), ((u4 0), .inr (7, [.int 0, .ref (u4 2)])), ((u4 2), .inl (G 0, 320, .inl (fun _ => 0))), ((u4 1), .inr (9, [.int 0, .int 0, .int 5, .ref (u4 3), .ref (u4 4), .ref (u4 5), .ref (u4 6), .ref (u4 7), .ref (u4 8)])), ((u4 3), .inl (G 0, 10, .inl (fun _ => 0))), ((u4 4), .inl (G 0, 10, .inl (fun _ => 0))), ((u4 5), .inl (G 0, 10, .inl (fun _ => 0))), ((u4 6), .inl (G 0, 6, .inl (fun _ => 0))), ((u4 7), .inl (G 0, 6, .inl (fun _ => 0))), ((u4 8), .inl (G 0, 6, .inl (fun _ => 0))), (q5, .inr (9, [.int 0, .int 0, .int 5, .ref (u8 0), .ref (u8 1), .ref (u8 2), .ref (u8 3), .ref (u8 4), .ref (u8 5)])), ((u8 0), .inl (G 0, 10, .inl (fun _ => 0))), ((u8 1), .inl (G 0, 10, .inl (fun _ => 0))), ((u8 2), .inl (G 0, 10, .inl (fun _ => 0))), ((u8 3), .inl (G 0, 6, .inl (fun _ => 0))), ((u8 4), .inl (G 0, 6, .inl (fun _ => 0))), ((u8 5), .inl (G 0, 6, .inl (fun _ => 0))), (q9, .inr (9, [.int 0, .int 0, .int 5, .ref (u12 0), .ref (u12 1), .ref (u12 2), .ref (u12 3), .ref (u12 4), .ref (u12 5)])), ((u12 0), .inl (G 0, 10, .inl (fun _ => 0))), ((u12 1), .inl (G 0, 10, .inl (fun _ => 0))), ((u12 2), .inl (G 0, 10, .inl (fun _ => 0))), ((u12 3), .inl (G 0, 6, .inl (fun _ => 0))), ((u12 4), .inl (G 0, 6, .inl (fun _ => 0))), ((u12 5), .inl (G 0, 6, .inl (fun _ => 0))), (q13, .inl (G 3, 2, .inr (.inr (.inr (.inr (va_up (va_up (fun _ => none) 0 (some q15)) 1 (some q20))))))), (q15, .inr (9, [.int 0, .int 0, .int 5, .ref (u18 0), .ref (u18 1), .ref (u18 2), .ref (u18 3), .ref (u18 4), .ref (u18 5)])), ((u18 0), .inl (G 0, 10, .inl (fun _ => 0))), ((u18 1), .inl (G 0, 10, .inl (fun _ => 0))), ((u18 2), .inl (G 0, 10, .inl (fun _ => 0))), ((u18 3), .inl (G 0, 6, .inl (fun _ => 0))), ((u18 4), .inl (G 0, 6, .inl (fun _ => 0))), ((u18 5), .inl (G 0, 6, .inl (fun _ => 0))), (q20, .inr (9, [.int 0, .int 0, .int 5, .ref (u23 0), .ref (u23 1), .ref (u23 2), .ref (u23 3), .ref (u23 4), .ref (u23 5)])), ((u23 0), .inl (G 0, 10, .inl (fun _ => 0))), ((u23 1), .inl (G 0, 10, .inl (fun _ => 0))), ((u23 2), .inl (G 0, 10, .inl (fun _ => 0))), ((u23 3), .inl (G 0, 6, .inl (fun _ => 0))), ((u23 4), .inl (G 0, 6, .inl (fun _ => 0))), ((u23 5), .inl (G 0, 6, .inl (fun _ => 0))), (q25, .inl (G 2, 2, .inl (fun _ => 0))), (q26, .inr (4, [.long 1, .ref (u29 0), .ref (u29 1)])), ((u29 0), .inl (G 1, 10, .inr (.inl (fun _ => 0)))), ((u29 1), .inl (G 1, 10, .inr (.inl (fun _ => 0)))), (q30, .inr (0, [.long 1, .ref (u33 0), .ref (u33 1)])), ((u33 0), .inl (G 5, 11, .inr (.inr (.inr (.inr (fun ir => if ir < 11 then some (u34 ir) else none)))))), ((u33 1), .inl (G 4, 10, .inr (.inr (.inr (.inr (fun ir => if ir < 10 then some (u35 ir) else none)))))), ((u34 0), .inl (G 1, 70, .inr (.inl (fun _ => 0)))), ((u34 1), .inl (G 1, 70, .inr (.inl (fun _ => 0)))), ((u34 2), .inl (G 1, 70, .inr (.inl (fun _ => 0)))), ((u34 3), .inl (G 1, 70, .inr (.inl (fun _ => 0)))), ((u34 4), .inl (G 1, 70, .inr (.inl (fun _ => 0)))), ((u34 5), .inl (G 1, 70, .inr (.inl (fun _ => 0)))), ((u34 6), .inl (G 1, 70, .inr (.inl (fun _ => 0)))), ((u34 7), .inl (G 1, 70, .inr (.inl (fun _ => 0)))), ((u34 8), .inl (G 1, 70, .inr (.inl (fun _ => 0)))), ((u34 9), .inl (G 1, 70, .inr (.inl (fun _ => 0)))), ((u34 10), .inl (G 1, 70, .inr (.inl (fun _ => 0)))), ((u35 0), .inl (G 0, 70, .inl (fun _ => 0))), ((u35 1), .inl (G 0, 70, .inl (fun _ => 0))), ((u35 2), .inl (G 0, 70, .inl (fun _ => 0))), ((u35 3), .inl (G 0, 70, .inl (fun _ => 0))), ((u35 4), .inl (G 0, 70, .inl (fun _ => 0))), ((u35 5), .inl (G 0, 70, .inl (fun _ => 0))), ((u35 6), .inl (G 0, 70, .inl (fun _ => 0))), ((u35 7), .inl (G 0, 70, .inl (fun _ => 0))), ((u35 8), .inl (G 0, 70, .inl (fun _ => 0))), ((u35 9), .inl (G 0, 70, .inl (fun _ => 0))), (q36, .inr (1, [.int 0, .int 0, .int 0])), (q40, .inr (2, [.int 0, .ref (u43 0), .ref (u43 1), .ref (u43 2), .ref (u43 3)])), ((u43 0), .inl (G 0, 8, .inl (fun _ => 0))), ((u43 1), .inl (G 0, 8, .inl (fun _ => 0))), ((u43 2), .inl (G 0, 8, .inl (fun _ => 0))), ((u43 3), .inl (G 0, 8, .inl (fun _ => 0)))]) (w1 := [(q44, .inr (3, [.int 0, .ref (u47 0), .ref (u47 1)])), ((u47 0), .inl (G 0, 6, .inl (fun _ => 0))), ((u47 1), .inl (G 0, 6, .inl (fun _ => 0)))]) hP hD [74] [0, 1, 2, 3, 4, 5, 6, 7, 8, 9, 10, 11, 12, 13, 14, 15, 16, 17, 18, 19, 20, 21, 22, 23, 24, 25, 26, 27, 28, 29, 30, 31, 32, 33, 34, 35, 36, 37, 38, 39, 40, 41, 42, 43, 44, 45, 46, 47, 48, 49, 50, 51, 52, 53, 54, 55, 56, 57, 58, 59, 60, 61, 62, 63, 64, 65, 66, 67, 68, 69, 70, 71, 72, 73] rfl rfl (by decide +kernel) (by decide +kernel) hk1 hFc hP1 hD1
        generalize H1 = H at hP hS ⊢
        obtain ⟨hP, hD⟩ := va_rls (ws' := [(h0, .inr (10, [.ref q1, .ref q5, .ref q9, .ref q13, .ref q25, .ref q26, .ref q30, .ref q36, .ref q40, .null, .null, .null, .int 0, .int 0])), (q1, .inr (5, [.ref (u4 0), .ref (u4 1), .int 0, .int 0, .int 0, .int 0, .int 0, .int 0, .int 0, .int 0, .int 0, .int 0])), ((u4 0), .inr (7, [.int 0, .ref (u4 2)])), ((u4 2), .inl (G 0, 320, .inl (fun _ => 0))), ((u4 1), .inr (9, [.int 0, .int 0, .int 5, .ref (u4 3), .ref (u4 4), .ref (u4 5), .ref (u4 6), .ref (u4 7), .ref (u4 8)])), ((u4 3), .inl (G 0, 10, .inl (fun _ => 0))), ((u4 4), .inl (G 0, 10, .inl (fun _ => 0))), ((u4 5), .inl (G 0, 10, .inl (fun _ => 0))), ((u4 6), .inl (G 0, 6, .inl (fun _ => 0))), ((u4 7), .inl (G 0, 6, .inl (fun _ => 0))), ((u4 8), .inl (G 0, 6, .inl (fun _ => 0))), (q5, .inr (9, [.int 0, .int 0, .int 5, .ref (u8 0), .ref (u8 1), .ref (u8 2), .ref (u8 3), .ref (u8 4), .ref (u8 5)])), ((u8 0), .inl (G 0, 10, .inl (fun _ => 0))), ((u8 1), .inl (G 0, 10, .inl (fun _ => 0))), ((u8 2), .inl (G 0, 10, .inl (fun _ => 0))), ((u8 3), .inl (G 0, 6, .inl (fun _ => 0))), ((u8 4), .inl (G 0, 6, .inl (fun _ => 0))), ((u8 5), .inl (G 0, 6, .inl (fun _ => 0))), (q9, .inr (9, [.int 0, .int 0, .int 5, .ref (u12 0), .ref (u12 1), .ref (u12 2), .ref (u12 3), .ref (u12 4), .ref (u12 5)])), ((u12 0), .inl (G 0, 10, .inl (fun _ => 0))), ((u12 1), .inl (G 0, 10, .inl (fun _ => 0))), ((u12 2), .inl (G 0, 10, .inl (fun _ => 0))), ((u12 3), .inl (G 0, 6, .inl (fun _ => 0))), ((u12 4), .inl (G 0, 6, .inl (fun _ => 0))), ((u12 5), .inl (G 0, 6, .inl (fun _ => 0))), (q13, .inl (G 3, 2, .inr (.inr (.inr (.inr (va_up (va_up (fun _ => none) 0 (some q15)) 1 (some q20))))))), (q15, .inr (9, [.int 0, .int 0, .int 5, .ref (u18 0), .ref (u18 1), .ref (u18 2), .ref (u18 3), .ref (u18 4), .ref (u18 5)])), ((u18 0), .inl (G 0, 10, .inl (fun _ => 0))), ((u18 1), .inl (G 0, 10, .inl (fun _ => 0))), ((u18 2), .inl (G 0, 10, .inl (fun _ => 0))), ((u18 3), .inl (G 0, 6, .inl (fun _ => 0))), ((u18 4), .inl (G 0, 6, .inl (fun _ => 0))), ((u18 5), .inl (G 0, 6, .inl (fun _ => 0))), (q20, .inr (9, [.int 0, .int 0, .int 5, .ref (u23 0), .ref (u23 1), .ref (u23 2), .ref (u23 3), .ref (u23 4), .ref (u23 5)])), ((u23 0), .inl (G 0, 10, .inl (fun _ => 0))), ((u23 1), .inl (G 0, 10, .inl (fun _ => 0))), ((u23 2), .inl (G 0, 10, .inl (fun _ => 0))), ((u23 3), .inl (G 0, 6, .inl (fun _ => 0))), ((u23 4), .inl (G 0, 6, .inl (fun _ => 0))), ((u23 5), .inl (G 0, 6, .inl (fun _ => 0))), (q25, .inl (G 2, 2, .inl (fun _ => 0))), (q26, .inr (4, [.long 1, .ref (u29 0), .ref (u29 1)])), ((u29 0), .inl (G 1, 10, .inr (.inl (fun _ => 0)))), ((u29 1), .inl (G 1, 10, .inr (.inl (fun _ => 0)))), (q30, .inr (0, [.long 1, .ref (u33 0), .ref (u33 1)])), ((u33 0), .inl (G 5, 11, .inr (.inr (.inr (.inr (fun ir => if ir < 11 then some (u34 ir) else none)))))), ((u33 1), .inl (G 4, 10, .inr (.inr (.inr (.inr (fun ir => if ir < 10 then some (u35 ir) else none)))))), ((u34 0), .inl (G 1, 70, .inr (.inl (fun _ => 0)))), ((u34 1), .inl (G 1, 70, .inr (.inl (fun _ => 0)))), ((u34 2), .inl (G 1, 70, .inr (.inl (fun _ => 0)))), ((u34 3), .inl (G 1, 70, .inr (.inl (fun _ => 0)))), ((u34 4), .inl (G 1, 70, .inr (.inl (fun _ => 0)))), ((u34 5), .inl (G 1, 70, .inr (.inl (fun _ => 0)))), ((u34 6), .inl (G 1, 70, .inr (.inl (fun _ => 0)))), ((u34 7), .inl (G 1, 70, .inr (.inl (fun _ => 0)))), ((u34 8), .inl (G 1, 70, .inr (.inl (fun _ => 0)))), ((u34 9), .inl (G 1, 70, .inr (.inl (fun _ => 0)))), ((u34 10), .inl (G 1, 70, .inr (.inl (fun _ => 0)))), ((u35 0), .inl (G 0, 70, .inl (fun _ => 0))), ((u35 1), .inl (G 0, 70, .inl (fun _ => 0))), ((u35 2), .inl (G 0, 70, .inl (fun _ => 0))), ((u35 3), .inl (G 0, 70, .inl (fun _ => 0))), ((u35 4), .inl (G 0, 70, .inl (fun _ => 0))), ((u35 5), .inl (G 0, 70, .inl (fun _ => 0))), ((u35 6), .inl (G 0, 70, .inl (fun _ => 0))), ((u35 7), .inl (G 0, 70, .inl (fun _ => 0))), ((u35 8), .inl (G 0, 70, .inl (fun _ => 0))), ((u35 9), .inl (G 0, 70, .inl (fun _ => 0))), (q36, .inr (1, [.int 0, .int 0, .int 0])), (q40, .inr (2, [.int 0, .ref (u43 0), .ref (u43 1), .ref (u43 2), .ref (u43 3)])), ((u43 0), .inl (G 0, 8, .inl (fun _ => 0))), ((u43 1), .inl (G 0, 8, .inl (fun _ => 0))), ((u43 2), .inl (G 0, 8, .inl (fun _ => 0))), ((u43 3), .inl (G 0, 8, .inl (fun _ => 0))), (q44, .inr (3, [.int 0, .ref (u47 0), .ref (u47 1)])), ((u47 0), .inl (G 0, 6, .inl (fun _ => 0))), ((u47 1), .inl (G 0, 6, .inl (fun _ => 0)))]) hP hD rfl
        refine W.widen (k := 76) (n := 2195) (Nat.le_of_ble_eq_true rfl) (Nat.le_of_ble_eq_true rfl) ?_
        refine va_putF (D := (dC, dI)) (ci := 10) (v := .ref q44) (ty := (.object "AsleepPass$Marked")) (C := RX10) (T := TX10) (N := 14) hx hb hg inG10 tyX10 tyX10_ok nmX10 hown hK.1 hP hD hS 0 rfl rfl 9 (Nat.le_of_ble_eq_true rfl) (hg _ wt_311) (fun _ h9 => h9) rfl hin rfl (by decide +kernel) rfl rfl (Nat.le_of_ble_eq_true rfl) dX10_init_130 (fun H locs hP hD hS => ?_)
        obtain ⟨hP, hD⟩ := va_rls (ws' := [(h0, .inr (10, [.ref q1, .ref q5, .ref q9, .ref q13, .ref q25, .ref q26, .ref q30, .ref q36, .ref q40, .ref q44, .null, .null, .int 0, .int 0])), (q1, .inr (5, [.ref (u4 0), .ref (u4 1), .int 0, .int 0, .int 0, .int 0, .int 0, .int 0, .int 0, .int 0, .int 0, .int 0])), ((u4 0), .inr (7, [.int 0, .ref (u4 2)])), ((u4 2), .inl (G 0, 320, .inl (fun _ => 0))), ((u4 1), .inr (9, [.int 0, .int 0, .int 5, .ref (u4 3), .ref (u4 4), .ref (u4 5), .ref (u4 6), .ref (u4 7), .ref (u4 8)])), ((u4 3), .inl (G 0, 10, .inl (fun _ => 0))), ((u4 4), .inl (G 0, 10, .inl (fun _ => 0))), ((u4 5), .inl (G 0, 10, .inl (fun _ => 0))), ((u4 6), .inl (G 0, 6, .inl (fun _ => 0))), ((u4 7), .inl (G 0, 6, .inl (fun _ => 0))), ((u4 8), .inl (G 0, 6, .inl (fun _ => 0))), (q5, .inr (9, [.int 0, .int 0, .int 5, .ref (u8 0), .ref (u8 1), .ref (u8 2), .ref (u8 3), .ref (u8 4), .ref (u8 5)])), ((u8 0), .inl (G 0, 10, .inl (fun _ => 0))), ((u8 1), .inl (G 0, 10, .inl (fun _ => 0))), ((u8 2), .inl (G 0, 10, .inl (fun _ => 0))), ((u8 3), .inl (G 0, 6, .inl (fun _ => 0))), ((u8 4), .inl (G 0, 6, .inl (fun _ => 0))), ((u8 5), .inl (G 0, 6, .inl (fun _ => 0))), (q9, .inr (9, [.int 0, .int 0, .int 5, .ref (u12 0), .ref (u12 1), .ref (u12 2), .ref (u12 3), .ref (u12 4), .ref (u12 5)])), ((u12 0), .inl (G 0, 10, .inl (fun _ => 0))), ((u12 1), .inl (G 0, 10, .inl (fun _ => 0))), ((u12 2), .inl (G 0, 10, .inl (fun _ => 0))), ((u12 3), .inl (G 0, 6, .inl (fun _ => 0))), ((u12 4), .inl (G 0, 6, .inl (fun _ => 0))), ((u12 5), .inl (G 0, 6, .inl (fun _ => 0))), (q13, .inl (G 3, 2, .inr (.inr (.inr (.inr (va_up (va_up (fun _ => none) 0 (some q15)) 1 (some q20))))))), (q15, .inr (9, [.int 0, .int 0, .int 5, .ref (u18 0), .ref (u18 1), .ref (u18 2), .ref (u18 3), .ref (u18 4), .ref (u18 5)])), ((u18 0), .inl (G 0, 10, .inl (fun _ => 0))), ((u18 1), .inl (G 0, 10, .inl (fun _ => 0))), ((u18 2), .inl (G 0, 10, .inl (fun _ => 0))), ((u18 3), .inl (G 0, 6, .inl (fun _ => 0))), ((u18 4), .inl (G 0, 6, .inl (fun _ => 0))), ((u18 5), .inl (G 0, 6, .inl (fun _ => 0))), (q20, .inr (9, [.int 0, .int 0, .int 5, .ref (u23 0), .ref (u23 1), .ref (u23 2), .ref (u23 3), .ref (u23 4), .ref (u23 5)])), ((u23 0), .inl (G 0, 10, .inl (fun _ => 0))), ((u23 1), .inl (G 0, 10, .inl (fun _ => 0))), ((u23 2), .inl (G 0, 10, .inl (fun _ => 0))), ((u23 3), .inl (G 0, 6, .inl (fun _ => 0))), ((u23 4), .inl (G 0, 6, .inl (fun _ => 0))), ((u23 5), .inl (G 0, 6, .inl (fun _ => 0))), (q25, .inl (G 2, 2, .inl (fun _ => 0))), (q26, .inr (4, [.long 1, .ref (u29 0), .ref (u29 1)])), ((u29 0), .inl (G 1, 10, .inr (.inl (fun _ => 0)))), ((u29 1), .inl (G 1, 10, .inr (.inl (fun _ => 0)))), (q30, .inr (0, [.long 1, .ref (u33 0), .ref (u33 1)])), ((u33 0), .inl (G 5, 11, .inr (.inr (.inr (.inr (fun ir => if ir < 11 then some (u34 ir) else none)))))), ((u33 1), .inl (G 4, 10, .inr (.inr (.inr (.inr (fun ir => if ir < 10 then some (u35 ir) else none)))))), ((u34 0), .inl (G 1, 70, .inr (.inl (fun _ => 0)))), ((u34 1), .inl (G 1, 70, .inr (.inl (fun _ => 0)))), ((u34 2), .inl (G 1, 70, .inr (.inl (fun _ => 0)))), ((u34 3), .inl (G 1, 70, .inr (.inl (fun _ => 0)))), ((u34 4), .inl (G 1, 70, .inr (.inl (fun _ => 0)))), ((u34 5), .inl (G 1, 70, .inr (.inl (fun _ => 0)))), ((u34 6), .inl (G 1, 70, .inr (.inl (fun _ => 0)))), ((u34 7), .inl (G 1, 70, .inr (.inl (fun _ => 0)))), ((u34 8), .inl (G 1, 70, .inr (.inl (fun _ => 0)))), ((u34 9), .inl (G 1, 70, .inr (.inl (fun _ => 0)))), ((u34 10), .inl (G 1, 70, .inr (.inl (fun _ => 0)))), ((u35 0), .inl (G 0, 70, .inl (fun _ => 0))), ((u35 1), .inl (G 0, 70, .inl (fun _ => 0))), ((u35 2), .inl (G 0, 70, .inl (fun _ => 0))), ((u35 3), .inl (G 0, 70, .inl (fun _ => 0))), ((u35 4), .inl (G 0, 70, .inl (fun _ => 0))), ((u35 5), .inl (G 0, 70, .inl (fun _ => 0))), ((u35 6), .inl (G 0, 70, .inl (fun _ => 0))), ((u35 7), .inl (G 0, 70, .inl (fun _ => 0))), ((u35 8), .inl (G 0, 70, .inl (fun _ => 0))), ((u35 9), .inl (G 0, 70, .inl (fun _ => 0))), (q36, .inr (1, [.int 0, .int 0, .int 0])), (q40, .inr (2, [.int 0, .ref (u43 0), .ref (u43 1), .ref (u43 2), .ref (u43 3)])), ((u43 0), .inl (G 0, 8, .inl (fun _ => 0))), ((u43 1), .inl (G 0, 8, .inl (fun _ => 0))), ((u43 2), .inl (G 0, 8, .inl (fun _ => 0))), ((u43 3), .inl (G 0, 8, .inl (fun _ => 0))), (q44, .inr (3, [.int 0, .ref (u47 0), .ref (u47 1)])), ((u47 0), .inl (G 0, 6, .inl (fun _ => 0))), ((u47 1), .inl (G 0, 6, .inl (fun _ => 0)))]) hP hD rfl
        refine lv_aload_n hx hb dX10_init_133 rfl (lv_at hl 1 rfl) ?_
        refine va_new (ci := 8) (fs := [.int 0, .null, .null]) (C := RX8) (T := TX8) (N := 3) hx hb hg inG8 tyX8 tyX8_ok hown (hg _ wt_251) (hg _ wt_252) (hg _ wt_10) hK.1 hP hD hS hA rfl nwX8 (Nat.le_of_ble_eq_true rfl) (Nat.le_of_ble_eq_true rfl) dX10_init_134 (fun q48 H hP hD hS => ?_)
        obtain ⟨hP, hD⟩ := va_rls (ws' := [(h0, .inr (10, [.ref q1, .ref q5, .ref q9, .ref q13, .ref q25, .ref q26, .ref q30, .ref q36, .ref q40, .ref q44, .null, .null, .int 0, .int 0])), (q1, .inr (5, [.ref (u4 0), .ref (u4 1), .int 0, .int 0, .int 0, .int 0, .int 0, .int 0, .int 0, .int 0, .int 0, .int 0])), ((u4 0), .inr (7, [.int 0, .ref (u4 2)])), ((u4 2), .inl (G 0, 320, .inl (fun _ => 0))), ((u4 1), .inr (9, [.int 0, .int 0, .int 5, .ref (u4 3), .ref (u4 4), .ref (u4 5), .ref (u4 6), .ref (u4 7), .ref (u4 8)])), ((u4 3), .inl (G 0, 10, .inl (fun _ => 0))), ((u4 4), .inl (G 0, 10, .inl (fun _ => 0))), ((u4 5), .inl (G 0, 10, .inl (fun _ => 0))), ((u4 6), .inl (G 0, 6, .inl (fun _ => 0))), ((u4 7), .inl (G 0, 6, .inl (fun _ => 0))), ((u4 8), .inl (G 0, 6, .inl (fun _ => 0))), (q5, .inr (9, [.int 0, .int 0, .int 5, .ref (u8 0), .ref (u8 1), .ref (u8 2), .ref (u8 3), .ref (u8 4), .ref (u8 5)])), ((u8 0), .inl (G 0, 10, .inl (fun _ => 0))), ((u8 1), .inl (G 0, 10, .inl (fun _ => 0))), ((u8 2), .inl (G 0, 10, .inl (fun _ => 0))), ((u8 3), .inl (G 0, 6, .inl (fun _ => 0))), ((u8 4), .inl (G 0, 6, .inl (fun _ => 0))), ((u8 5), .inl (G 0, 6, .inl (fun _ => 0))), (q9, .inr (9, [.int 0, .int 0, .int 5, .ref (u12 0), .ref (u12 1), .ref (u12 2), .ref (u12 3), .ref (u12 4), .ref (u12 5)])), ((u12 0), .inl (G 0, 10, .inl (fun _ => 0))), ((u12 1), .inl (G 0, 10, .inl (fun _ => 0))), ((u12 2), .inl (G 0, 10, .inl (fun _ => 0))), ((u12 3), .inl (G 0, 6, .inl (fun _ => 0))), ((u12 4), .inl (G 0, 6, .inl (fun _ => 0))), ((u12 5), .inl (G 0, 6, .inl (fun _ => 0))), (q13, .inl (G 3, 2, .inr (.inr (.inr (.inr (va_up (va_up (fun _ => none) 0 (some q15)) 1 (some q20))))))), (q15, .inr (9, [.int 0, .int 0, .int 5, .ref (u18 0), .ref (u18 1), .ref (u18 2), .ref (u18 3), .ref (u18 4), .ref (u18 5)])), ((u18 0), .inl (G 0, 10, .inl (fun _ => 0))), ((u18 1), .inl (G 0, 10, .inl (fun _ => 0))), ((u18 2), .inl (G 0, 10, .inl (fun _ => 0))), ((u18 3), .inl (G 0, 6, .inl (fun _ => 0))), ((u18 4), .inl (G 0, 6, .inl (fun _ => 0))), ((u18 5), .inl (G 0, 6, .inl (fun _ => 0))), (q20, .inr (9, [.int 0, .int 0, .int 5, .ref (u23 0), .ref (u23 1), .ref (u23 2), .ref (u23 3), .ref (u23 4), .ref (u23 5)])), ((u23 0), .inl (G 0, 10, .inl (fun _ => 0))), ((u23 1), .inl (G 0, 10, .inl (fun _ => 0))), ((u23 2), .inl (G 0, 10, .inl (fun _ => 0))), ((u23 3), .inl (G 0, 6, .inl (fun _ => 0))), ((u23 4), .inl (G 0, 6, .inl (fun _ => 0))), ((u23 5), .inl (G 0, 6, .inl (fun _ => 0))), (q25, .inl (G 2, 2, .inl (fun _ => 0))), (q26, .inr (4, [.long 1, .ref (u29 0), .ref (u29 1)])), ((u29 0), .inl (G 1, 10, .inr (.inl (fun _ => 0)))), ((u29 1), .inl (G 1, 10, .inr (.inl (fun _ => 0)))), (q30, .inr (0, [.long 1, .ref (u33 0), .ref (u33 1)])), ((u33 0), .inl (G 5, 11, .inr (.inr (.inr (.inr (fun ir => if ir < 11 then some (u34 ir) else none)))))), ((u33 1), .inl (G 4, 10, .inr (.inr (.inr (.inr (fun ir => if ir < 10 then some (u35 ir) else none)))))), ((u34 0), .inl (G 1, 70, .inr (.inl (fun _ => 0)))), ((u34 1), .inl (G 1, 70, .inr (.inl (fun _ => 0)))), ((u34 2), .inl (G 1, 70, .inr (.inl (fun _ => 0)))), ((u34 3), .inl (G 1, 70, .inr (.inl (fun _ => 0)))), ((u34 4), .inl (G 1, 70, .inr (.inl (fun _ => 0)))), ((u34 5), .inl (G 1, 70, .inr (.inl (fun _ => 0)))), ((u34 6), .inl (G 1, 70, .inr (.inl (fun _ => 0)))), ((u34 7), .inl (G 1, 70, .inr (.inl (fun _ => 0)))), ((u34 8), .inl (G 1, 70, .inr (.inl (fun _ => 0)))), ((u34 9), .inl (G 1, 70, .inr (.inl (fun _ => 0)))), ((u34 10), .inl (G 1, 70, .inr (.inl (fun _ => 0)))), ((u35 0), .inl (G 0, 70, .inl (fun _ => 0))), ((u35 1), .inl (G 0, 70, .inl (fun _ => 0))), ((u35 2), .inl (G 0, 70, .inl (fun _ => 0))), ((u35 3), .inl (G 0, 70, .inl (fun _ => 0))), ((u35 4), .inl (G 0, 70, .inl (fun _ => 0))), ((u35 5), .inl (G 0, 70, .inl (fun _ => 0))), ((u35 6), .inl (G 0, 70, .inl (fun _ => 0))), ((u35 7), .inl (G 0, 70, .inl (fun _ => 0))), ((u35 8), .inl (G 0, 70, .inl (fun _ => 0))), ((u35 9), .inl (G 0, 70, .inl (fun _ => 0))), (q36, .inr (1, [.int 0, .int 0, .int 0])), (q40, .inr (2, [.int 0, .ref (u43 0), .ref (u43 1), .ref (u43 2), .ref (u43 3)])), ((u43 0), .inl (G 0, 8, .inl (fun _ => 0))), ((u43 1), .inl (G 0, 8, .inl (fun _ => 0))), ((u43 2), .inl (G 0, 8, .inl (fun _ => 0))), ((u43 3), .inl (G 0, 8, .inl (fun _ => 0))), (q44, .inr (3, [.int 0, .ref (u47 0), .ref (u47 1)])), ((u47 0), .inl (G 0, 6, .inl (fun _ => 0))), ((u47 1), .inl (G 0, 6, .inl (fun _ => 0))), (q48, .inr (8, [.int 0, .null, .null]))]) hP hD rfl
        refine W.widen (k := 77) (n := 2198) (Nat.le_of_ble_eq_true rfl) (Nat.le_of_ble_eq_true rfl) ?_
        refine lv_dup hx hb dX10_init_137 rfl ?_
        obtain ⟨hPc, hDc, hFc⟩ := va_sub3 (ws' := [(q48, .inr (8, [.int 0, .null, .null]))]) hP hD hS hA [77] (by decide +kernel) rfl
        refine va_callv (va_runIN (As := []) (rest := [.ref q48, .ref h0]) ⟨hx, hb, hml, hown, hg⟩ (c_X8_init l dC dI G _ q48) (kwIN hg hK mfX8_init wn_253 ⟨Nat.le_of_ble_eq_true rfl, Nat.le_of_ble_eq_true rfl⟩) (preSW hK hPc hDc) rfl rfl hl.1 rfl (lv_room (Nat.le_of_ble_eq_true rfl)) dX10_init_138 ⟨Nat.le_of_ble_eq_true rfl, Nat.le_of_ble_eq_true rfl⟩) hS (fun q _ h => hFc q h) hFc (fun ur49 t H1 locs ht hvm w50 hB hz1 hk1 hS => ?_)
        obtain ⟨u51, u52, u53⟩ := ur49
        obtain ⟨hP1, hD1⟩ := hB
        rw [ht] at hP1
        obtain ⟨hP, hD⟩ := va_join (wr := [(h0, .inr (10, [.ref q1, .ref q5, .ref q9, .ref q13, .ref q25, .ref q26, .ref q30, .ref q36, .ref q40, .ref q44, .null, .null, .int 0, .int 0])), (q1, .inr (5, [.ref (u4 0), .ref (u4 1), .int 0, .int 0, .int 0, .int 0, .int 0, .int 0, .int 0, .int 0, .int 0, .int 0])), ((u4 0), .inr (7, [.int 0, .ref (u4 2)])), ((u4 2), .inl (G 0, 320, .inl (fun _ => 0))), ((u4 1), .inr (9, [.int 0, .int 0, .int 5, .ref (u4 3), .ref (u4 4), .ref (u4 5), .ref (u4 6), .ref (u4 7), .ref (u4 8)])), ((u4 3), .inl (G 0, 10, .inl (fun _ => 0))), ((u4 4), .inl (G 0, 10, .inl (fun _ => 0))), ((u4 5), .inl (G 0, 10, .inl (fun _ => 0))), ((u4 6), .inl (G 0, 6, .inl (fun _ => 0))), ((u4 7), .inl (G 0, 6, .inl (fun _ => 0))), ((u4 8), .inl (G 0, 6, .inl (fun _ => 0))), (q5, .inr (9, [.int 0, .int 0, .int 5, .ref (u8 0), .ref (u8 1), .ref (u8 2), .ref (u8 3), .ref (u8 4), .ref (u8 5)])), ((u8 0), .inl (G 0, 10, .inl (fun _ => 0))), ((u8 1), .inl (G 0, 10, .inl (fun _ => 0))), ((u8 2), .inl (G 0, 10, .inl (fun _ => 0))), ((u8 3), .inl (G 0, 6, .inl (fun _ => 0))), ((u8 4), .inl (G 0, 6, .inl (fun _ => 0))), ((u8 5), .inl (G 0, 6, .inl (fun _ => 0))), (q9, .inr (9, [.int 0, .int 0, .int 5, .ref (u12 0), .ref (u12 1), .ref (u12 2), .ref (u12 3), .ref (u12 4), .ref (u12 5)])), ((u12 0), .inl (G 0, 10, .inl (fun _ => 0))), ((u12 1), .inl (G 0, 10, .inl (fun _ => 0))), ((u12 2), .inl (G 0, 10, .inl (fun _ => 0))), ((u12 3), .inl (G 0, 6, .inl (fun _ => 0))), ((u12 4), .inl (G 0, 6, .inl (fun _ => 0))), ((u12 5), .inl (G 0, 6, .inl (fun _ => 0))), (q13, .inl (G 3, 2, .inr (.inr (.inr (.inr (va_up (va_up (fun _ => none) 0 (some q15)) 1 (some q20))))))), (q15, .inr (9, [.int 0, .int 0, .int 5, .ref (u18 0), .ref (u18 1), .ref (u18 2), .ref (u18 3), .ref (u18 4), .ref (u18 5)])), ((u18 0), .inl (G 0, 10, .inl (fun _ => 0))), ((u18 1), .inl (G 0, 10, .inl (fun _ => 0))), ((u18 2), .inl (G 0, 10, .inl (fun _ => 0))), ((u18 3), .inl (G 0, 6, .inl (fun _ => 0))), ((u18 4), .inl (G 0, 6, .inl (fun _ => 0))), ((u18 5), .inl (G 0, 6, .inl (fun _ => 0))), (q20, .inr (9, [.int 0, .int 0, .int 5, .ref (u23 0), .ref (u23 1), .ref (u23 2), .ref (u23 3), .ref (u23 4), .ref (u23 5)])), ((u23 0), .inl (G 0, 10, .inl (fun _ => 0))), ((u23 1), .inl (G 0, 10, .inl (fun _ => 0))), ((u23 2), .inl (G 0, 10, .inl (fun _ => 0))), ((u23 3), .inl (G 0, 6, .inl (fun _ => 0))), ((u23 4), .inl (G 0, 6, .inl (fun _ => 0))), ((u23 5), .inl (G 0, 6, .inl (fun _ => 0))), (q25, .inl (G 2, 2, .inl (fun _ => 0))), (q26, .inr (4, [.long 1, .ref (u29 0), .ref (u29 1)])), ((u29 0), .inl (G 1, 10, .inr (.inl (fun _ => 0)))), ((u29 1), .inl (G 1, 10, .inr (.inl (fun _ => 0)))), (q30, .inr (0, [.long 1, .ref (u33 0), .ref (u33 1)])), ((u33 0), .inl (G 5, 11, .inr (.inr (.inr (.inr (fun ir => if ir < 11 then some (u34 ir) else none)))))), ((u33 1), .inl (G 4, 10, .inr (.inr (.inr (.inr (fun ir => if ir < 10 then some (u35 ir) else none)))))), ((u34 0), .inl (G 1, 70, .inr (.inl (fun _ => 0)))), ((u34 1), .inl (G 1, 70, .inr (.inl (fun _ => 0)))), ((u34 2), .inl (G 1, 70, .inr (.inl (fun _ => 0)))), ((u34 3), .inl (G 1, 70, .inr (.inl (fun _ => 0)))), ((u34 4), .inl (G 1, 70, .inr (.inl (fun _ => 0)))), ((u34 5), .inl (G 1, 70, .inr (.inl (fun _ => 0)))), ((u34 6), .inl (G 1, 70, .inr (.inl (fun _ => 0)))), ((u34 7), .inl (G 1, 70, .inr (.inl (fun _ => 0)))), ((u34 8), .inl (G 1, 70, .inr (.inl (fun _ => 0)))), ((u34 9), .inl (G 1, 70, .inr (.inl (fun _ => 0)))), ((u34 10), .inl (G 1, 70, .inr (.inl (fun _ => 0)))), ((u35 0), .inl (G 0, 70, .inl (fun _ => 0))), ((u35 1), .inl (G 0, 70, .inl (fun _ => 0))), ((u35 2), .inl (G 0, 70, .inl (fun _ => 0))), ((u35 3), .inl (G 0, 70, .inl (fun _ => 0))), ((u35 4), .inl (G 0, 70, .inl (fun _ => 0))), ((u35 5), .inl (G 0, 70, .inl (fun _ => 0))), ((u35 6), .inl (G 0, 70, .inl (fun _ => 0))), ((u35 7), .inl (G 0, 70, .inl (fun _ => 0))), ((u35 8), .inl (G 0, 70, .inl (fun _ => 0))), ((u35 9), .inl (G 0, 70, .inl (fun _ => 0))), (q36, .inr (1, [.int 0, .int 0, .int 0])), (q40, .inr (2, [.int 0, .ref (u43 0), .ref (u43 1), .ref (u43 2), .ref (u43 3)])), ((u43 0), .inl (G 0, 8, .inl (fun _ => 0))), ((u43 1), .inl (G 0, 8, .inl (fun _ => 0))), ((u43 2), .inl (G 0, 8, .inl (fun _ => 0))), ((u43 3), .inl (G 0, 8, .inl (fun _ => 0))), (q44, .inr (3, [.int 0, .ref (u47 0), .ref (u47 1)])), ((u47 0), .inl (G 0, 6, .inl (fun _ => 0))), ((u47 1), .inl (G 0, 6, .inl (fun _ => 0)))]) (w1 := [(q48, .inr (8, [.int 0, .ref (u51 0), .ref (u51 1)])), ((u51 0), .inl (G 4, 11, .inr (.inr (.inr (.inr (fun ir => if ir < 11 then some (u52 ir) else none)))))), ((u51 1), .inl (G 4, 11, .inr (.inr (.inr (.inr (fun ir => if ir < 11 then some (u53 ir) else none)))))), ((u52 0), .inl (G 0, 10, .inl (fun _ => 0))), ((u52 1), .inl (G 0, 10, .inl (fun _ => 0))), ((u52 2), .inl (G 0, 10, .inl (fun _ => 0))), ((u52 3), .inl (G 0, 10, .inl (fun _ => 0))), ((u52 4), .inl (G 0, 10, .inl (fun _ => 0))), ((u52 5), .inl (G 0, 10, .inl (fun _ => 0))), ((u52 6), .inl (G 0, 10, .inl (fun _ => 0))), ((u52 7), .inl (G 0, 10, .inl (fun _ => 0))), ((u52 8), .inl (G 0, 10, .inl (fun _ => 0))), ((u52 9), .inl (G 0, 10, .inl (fun _ => 0))), ((u52 10), .inl (G 0, 10, .inl (fun _ => 0))), ((u53 0), .inl (G 0, 10, .inl (fun _ => 0))), ((u53 1), .inl (G 0, 10, .inl (fun _ => 0))), ((u53 2), .inl (G 0, 10, .inl (fun _ => 0))), ((u53 3), .inl (G 0, 10, .inl (fun _ => 0))), ((u53 4), .inl (G 0, 10, .inl (fun _ => 0))), ((u53 5), .inl (G 0, 10, .inl (fun _ => 0))), ((u53 6), .inl (G 0, 10, .inl (fun _ => 0))), ((u53 7), .inl (G 0, 10, .inl (fun _ => 0))), ((u53 8), .inl (G 0, 10, .inl (fun _ => 0))), ((u53 9), .inl (G 0, 10, .inl (fun _ => 0))), ((u53 10), .inl (G 0, 10, .inl (fun _ => 0)))]) hP hD [77] [0, 1, 2, 3, 4, 5, 6, 7, 8, 9, 10, 11, 12, 13, 14, 15, 16, 17, 18, 19, 20, 21, 22, 23, 24, 25, 26, 27, 28, 29, 30, 31, 32, 33, 34, 35, 36, 37, 38, 39, 40, 41, 42, 43, 44, 45, 46, 47, 48, 49, 50, 51, 52, 53, 54, 55, 56, 57, 58, 59, 60, 61, 62, 63, 64, 65, 66, 67, 68, 69, 70, 71, 72, 73, 74, 75, 76] rfl rfl (by decide +kernel) (by decide +kernel) hk1 hFc hP1 hD1
        generalize H1 = H at hP hS ⊢
        obtain ⟨hP, hD⟩ := va_rls (ws' := [(h0, .inr (10, [.ref q1, .ref q5, .ref q9, .ref q13, .ref q25, .ref q26, .ref q30, .ref q36, .ref q40, .ref q44, .null, .null, .int 0, .int 0])), (q1, .inr (5, [.ref (u4 0), .ref (u4 1), .int 0, .int 0, .int 0, .int 0, .int 0, .int 0, .int 0, .int 0, .int 0, .int 0])), ((u4 0), .inr (7, [.int 0, .ref (u4 2)])), ((u4 2), .inl (G 0, 320, .inl (fun _ => 0))), ((u4 1), .inr (9, [.int 0, .int 0, .int 5, .ref (u4 3), .ref (u4 4), .ref (u4 5), .ref (u4 6), .ref (u4 7), .ref (u4 8)])), ((u4 3), .inl (G 0, 10, .inl (fun _ => 0))), ((u4 4), .inl (G 0, 10, .inl (fun _ => 0))), ((u4 5), .inl (G 0, 10, .inl (fun _ => 0))), ((u4 6), .inl (G 0, 6, .inl (fun _ => 0))), ((u4 7), .inl (G 0, 6, .inl (fun _ => 0))), ((u4 8), .inl (G 0, 6, .inl (fun _ => 0))), (q5, .inr (9, [.int 0, .int 0, .int 5, .ref (u8 0), .ref (u8 1), .ref (u8 2), .ref (u8 3), .ref (u8 4), .ref (u8 5)])), ((u8 0), .inl (G 0, 10, .inl (fun _ => 0))), ((u8 1), .inl (G 0, 10, .inl (fun _ => 0))), ((u8 2), .inl (G 0, 10, .inl (fun _ => 0))), ((u8 3), .inl (G 0, 6, .inl (fun _ => 0))), ((u8 4), .inl (G 0, 6, .inl (fun _ => 0))), ((u8 5), .inl (G 0, 6, .inl (fun _ => 0))), (q9, .inr (9, [.int 0, .int 0, .int 5, .ref (u12 0), .ref (u12 1), .ref (u12 2), .ref (u12 3), .ref (u12 4), .ref (u12 5)])), ((u12 0), .inl (G 0, 10, .inl (fun _ => 0))), ((u12 1), .inl (G 0, 10, .inl (fun _ => 0))), ((u12 2), .inl (G 0, 10, .inl (fun _ => 0))), ((u12 3), .inl (G 0, 6, .inl (fun _ => 0))), ((u12 4), .inl (G 0, 6, .inl (fun _ => 0))), ((u12 5), .inl (G 0, 6, .inl (fun _ => 0))), (q13, .inl (G 3, 2, .inr (.inr (.inr (.inr (va_up (va_up (fun _ => none) 0 (some q15)) 1 (some q20))))))), (q15, .inr (9, [.int 0, .int 0, .int 5, .ref (u18 0), .ref (u18 1), .ref (u18 2), .ref (u18 3), .ref (u18 4), .ref (u18 5)])), ((u18 0), .inl (G 0, 10, .inl (fun _ => 0))), ((u18 1), .inl (G 0, 10, .inl (fun _ => 0))), ((u18 2), .inl (G 0, 10, .inl (fun _ => 0))), ((u18 3), .inl (G 0, 6, .inl (fun _ => 0))), ((u18 4), .inl (G 0, 6, .inl (fun _ => 0))), ((u18 5), .inl (G 0, 6, .inl (fun _ => 0))), (q20, .inr (9, [.int 0, .int 0, .int 5, .ref (u23 0), .ref (u23 1), .ref (u23 2), .ref (u23 3), .ref (u23 4), .ref (u23 5)])), ((u23 0), .inl (G 0, 10, .inl (fun _ => 0))), ((u23 1), .inl (G 0, 10, .inl (fun _ => 0))), ((u23 2), .inl (G 0, 10, .inl (fun _ => 0))), ((u23 3), .inl (G 0, 6, .inl (fun _ => 0))), ((u23 4), .inl (G 0, 6, .inl (fun _ => 0))), ((u23 5), .inl (G 0, 6, .inl (fun _ => 0))), (q25, .inl (G 2, 2, .inl (fun _ => 0))), (q26, .inr (4, [.long 1, .ref (u29 0), .ref (u29 1)])), ((u29 0), .inl (G 1, 10, .inr (.inl (fun _ => 0)))), ((u29 1), .inl (G 1, 10, .inr (.inl (fun _ => 0)))), (q30, .inr (0, [.long 1, .ref (u33 0), .ref (u33 1)])), ((u33 0), .inl (G 5, 11, .inr (.inr (.inr (.inr (fun ir => if ir < 11 then some (u34 ir) else none)))))), ((u33 1), .inl (G 4, 10, .inr (.inr (.inr (.inr (fun ir => if ir < 10 then some (u35 ir) else none)))))), ((u34 0), .inl (G 1, 70, .inr (.inl (fun _ => 0)))), ((u34 1), .inl (G 1, 70, .inr (.inl (fun _ => 0)))), ((u34 2), .inl (G 1, 70, .inr (.inl (fun _ => 0)))), ((u34 3), .inl (G 1, 70, .inr (.inl (fun _ => 0)))), ((u34 4), .inl (G 1, 70, .inr (.inl (fun _ => 0)))), ((u34 5), .inl (G 1, 70, .inr (.inl (fun _ => 0)))), ((u34 6), .inl (G 1, 70, .inr (.inl (fun _ => 0)))), ((u34 7), .inl (G 1, 70, .inr (.inl (fun _ => 0)))), ((u34 8), .inl (G 1, 70, .inr (.inl (fun _ => 0)))), ((u34 9), .inl (G 1, 70, .inr (.inl (fun _ => 0)))), ((u34 10), .inl (G 1, 70, .inr (.inl (fun _ => 0)))), ((u35 0), .inl (G 0, 70, .inl (fun _ => 0))), ((u35 1), .inl (G 0, 70, .inl (fun _ => 0))), ((u35 2), .inl (G 0, 70, .inl (fun _ => 0))), ((u35 3), .inl (G 0, 70, .inl (fun _ => 0))), ((u35 4), .inl (G 0, 70, .inl (fun _ => 0))), ((u35 5), .inl (G 0, 70, .inl (fun _ => 0))), ((u35 6), .inl (G 0, 70, .inl (fun _ => 0))), ((u35 7), .inl (G 0, 70, .inl (fun _ => 0))), ((u35 8), .inl (G 0, 70, .inl (fun _ => 0))), ((u35 9), .inl (G 0, 70, .inl (fun _ => 0))), (q36, .inr (1, [.int 0, .int 0, .int 0])), (q40, .inr (2, [.int 0, .ref (u43 0), .ref (u43 1), .ref (u43 2), .ref (u43 3)])), ((u43 0), .inl (G 0, 8, .inl (fun _ => 0))), ((u43 1), .inl (G 0, 8, .inl (fun _ => 0))), ((u43 2), .inl (G 0, 8, .inl (fun _ => 0))), ((u43 3), .inl (G 0, 8, .inl (fun _ => 0))), (q44, .inr (3, [.int 0, .ref (u47 0), .ref (u47 1)])), ((u47 0), .inl (G 0, 6, .inl (fun _ => 0))), ((u47 1), .inl (G 0, 6, .inl (fun _ => 0))), (q48, .inr (8, [.int 0, .ref (u51 0), .ref (u51 1)])), ((u51 0), .inl (G 4, 11, .inr (.inr (.inr (.inr (fun ir => if ir < 11 then some (u52 ir) else none)))))), ((u51 1), .inl (G 4, 11, .inr (.inr (.inr (.inr (fun ir => if ir < 11 then some (u53 ir) else none)))))), ((u52 0), .inl (G 0, 10, .inl (fun _ => 0))), ((u52 1), .inl (G 0, 10, .inl (fun _ => 0))), ((u52 2), .inl (G 0, 10, .inl (fun _ => 0))), ((u52 3), .inl (G 0, 10, .inl (fun _ => 0))), ((u52 4), .inl (G 0, 10, .inl (fun _ => 0))), ((u52 5), .inl (G 0, 10, .inl (fun _ => 0))), ((u52 6), .inl (G 0, 10, .inl (fun _ => 0))), ((u52 7), .inl (G 0, 10, .inl (fun _ => 0))), ((u52 8), .inl (G 0, 10, .inl (fun _ => 0))), ((u52 9), .inl (G 0, 10, .inl (fun _ => 0))), ((u52 10), .inl (G 0, 10, .inl (fun _ => 0))), ((u53 0), .inl (G 0, 10, .inl (fun _ => 0))), ((u53 1), .inl (G 0, 10, .inl (fun _ => 0))), ((u53 2), .inl (G 0, 10, .inl (fun _ => 0))), ((u53 3), .inl (G 0, 10, .inl (fun _ => 0))), ((u53 4), .inl (G 0, 10, .inl (fun _ => 0))), ((u53 5), .inl (G 0, 10, .inl (fun _ => 0))), ((u53 6), .inl (G 0, 10, .inl (fun _ => 0))), ((u53 7), .inl (G 0, 10, .inl (fun _ => 0))), ((u53 8), .inl (G 0, 10, .inl (fun _ => 0))), ((u53 9), .inl (G 0, 10, .inl (fun _ => 0))), ((u53 10), .inl (G 0, 10, .inl (fun _ => 0)))]) hP hD rfl
        refine W.widen (k := 101) (n := 2440) (Nat.le_of_ble_eq_true rfl) (Nat.le_of_ble_eq_true rfl) ?_
        refine va_putF (D := (dC, dI)) (ci := 10) (v := .ref q48) (ty := (.object "AsleepPass$Trails")) (C := RX10) (T := TX10) (N := 14) hx hb hg inG10 tyX10 tyX10_ok nmX10 hown hK.1 hP hD hS 0 rfl rfl 10 (Nat.le_of_ble_eq_true rfl) (hg _ wt_312) (fun _ h9 => h9) rfl hin rfl (by decide +kernel) rfl rfl (Nat.le_of_ble_eq_true rfl) dX10_init_141 (fun H locs hP hD hS => ?_)
        obtain ⟨hP, hD⟩ := va_rls (ws' := [(h0, .inr (10, [.ref q1, .ref q5, .ref q9, .ref q13, .ref q25, .ref q26, .ref q30, .ref q36, .ref q40, .ref q44, .ref q48, .null, .int 0, .int 0])), (q1, .inr (5, [.ref (u4 0), .ref (u4 1), .int 0, .int 0, .int 0, .int 0, .int 0, .int 0, .int 0, .int 0, .int 0, .int 0])), ((u4 0), .inr (7, [.int 0, .ref (u4 2)])), ((u4 2), .inl (G 0, 320, .inl (fun _ => 0))), ((u4 1), .inr (9, [.int 0, .int 0, .int 5, .ref (u4 3), .ref (u4 4), .ref (u4 5), .ref (u4 6), .ref (u4 7), .ref (u4 8)])), ((u4 3), .inl (G 0, 10, .inl (fun _ => 0))), ((u4 4), .inl (G 0, 10, .inl (fun _ => 0))), ((u4 5), .inl (G 0, 10, .inl (fun _ => 0))), ((u4 6), .inl (G 0, 6, .inl (fun _ => 0))), ((u4 7), .inl (G 0, 6, .inl (fun _ => 0))), ((u4 8), .inl (G 0, 6, .inl (fun _ => 0))), (q5, .inr (9, [.int 0, .int 0, .int 5, .ref (u8 0), .ref (u8 1), .ref (u8 2), .ref (u8 3), .ref (u8 4), .ref (u8 5)])), ((u8 0), .inl (G 0, 10, .inl (fun _ => 0))), ((u8 1), .inl (G 0, 10, .inl (fun _ => 0))), ((u8 2), .inl (G 0, 10, .inl (fun _ => 0))), ((u8 3), .inl (G 0, 6, .inl (fun _ => 0))), ((u8 4), .inl (G 0, 6, .inl (fun _ => 0))), ((u8 5), .inl (G 0, 6, .inl (fun _ => 0))), (q9, .inr (9, [.int 0, .int 0, .int 5, .ref (u12 0), .ref (u12 1), .ref (u12 2), .ref (u12 3), .ref (u12 4), .ref (u12 5)])), ((u12 0), .inl (G 0, 10, .inl (fun _ => 0))), ((u12 1), .inl (G 0, 10, .inl (fun _ => 0))), ((u12 2), .inl (G 0, 10, .inl (fun _ => 0))), ((u12 3), .inl (G 0, 6, .inl (fun _ => 0))), ((u12 4), .inl (G 0, 6, .inl (fun _ => 0))), ((u12 5), .inl (G 0, 6, .inl (fun _ => 0))), (q13, .inl (G 3, 2, .inr (.inr (.inr (.inr (va_up (va_up (fun _ => none) 0 (some q15)) 1 (some q20))))))), (q15, .inr (9, [.int 0, .int 0, .int 5, .ref (u18 0), .ref (u18 1), .ref (u18 2), .ref (u18 3), .ref (u18 4), .ref (u18 5)])), ((u18 0), .inl (G 0, 10, .inl (fun _ => 0))), ((u18 1), .inl (G 0, 10, .inl (fun _ => 0))), ((u18 2), .inl (G 0, 10, .inl (fun _ => 0))), ((u18 3), .inl (G 0, 6, .inl (fun _ => 0))), ((u18 4), .inl (G 0, 6, .inl (fun _ => 0))), ((u18 5), .inl (G 0, 6, .inl (fun _ => 0))), (q20, .inr (9, [.int 0, .int 0, .int 5, .ref (u23 0), .ref (u23 1), .ref (u23 2), .ref (u23 3), .ref (u23 4), .ref (u23 5)])), ((u23 0), .inl (G 0, 10, .inl (fun _ => 0))), ((u23 1), .inl (G 0, 10, .inl (fun _ => 0))), ((u23 2), .inl (G 0, 10, .inl (fun _ => 0))), ((u23 3), .inl (G 0, 6, .inl (fun _ => 0))), ((u23 4), .inl (G 0, 6, .inl (fun _ => 0))), ((u23 5), .inl (G 0, 6, .inl (fun _ => 0))), (q25, .inl (G 2, 2, .inl (fun _ => 0))), (q26, .inr (4, [.long 1, .ref (u29 0), .ref (u29 1)])), ((u29 0), .inl (G 1, 10, .inr (.inl (fun _ => 0)))), ((u29 1), .inl (G 1, 10, .inr (.inl (fun _ => 0)))), (q30, .inr (0, [.long 1, .ref (u33 0), .ref (u33 1)])), ((u33 0), .inl (G 5, 11, .inr (.inr (.inr (.inr (fun ir => if ir < 11 then some (u34 ir) else none)))))), ((u33 1), .inl (G 4, 10, .inr (.inr (.inr (.inr (fun ir => if ir < 10 then some (u35 ir) else none)))))), ((u34 0), .inl (G 1, 70, .inr (.inl (fun _ => 0)))), ((u34 1), .inl (G 1, 70, .inr (.inl (fun _ => 0)))), ((u34 2), .inl (G 1, 70, .inr (.inl (fun _ => 0)))), ((u34 3), .inl (G 1, 70, .inr (.inl (fun _ => 0)))), ((u34 4), .inl (G 1, 70, .inr (.inl (fun _ => 0)))), ((u34 5), .inl (G 1, 70, .inr (.inl (fun _ => 0)))), ((u34 6), .inl (G 1, 70, .inr (.inl (fun _ => 0)))), ((u34 7), .inl (G 1, 70, .inr (.inl (fun _ => 0)))), ((u34 8), .inl (G 1, 70, .inr (.inl (fun _ => 0)))), ((u34 9), .inl (G 1, 70, .inr (.inl (fun _ => 0)))), ((u34 10), .inl (G 1, 70, .inr (.inl (fun _ => 0)))), ((u35 0), .inl (G 0, 70, .inl (fun _ => 0))), ((u35 1), .inl (G 0, 70, .inl (fun _ => 0))), ((u35 2), .inl (G 0, 70, .inl (fun _ => 0))), ((u35 3), .inl (G 0, 70, .inl (fun _ => 0))), ((u35 4), .inl (G 0, 70, .inl (fun _ => 0))), ((u35 5), .inl (G 0, 70, .inl (fun _ => 0))), ((u35 6), .inl (G 0, 70, .inl (fun _ => 0))), ((u35 7), .inl (G 0, 70, .inl (fun _ => 0))), ((u35 8), .inl (G 0, 70, .inl (fun _ => 0))), ((u35 9), .inl (G 0, 70, .inl (fun _ => 0))), (q36, .inr (1, [.int 0, .int 0, .int 0])), (q40, .inr (2, [.int 0, .ref (u43 0), .ref (u43 1), .ref (u43 2), .ref (u43 3)])), ((u43 0), .inl (G 0, 8, .inl (fun _ => 0))), ((u43 1), .inl (G 0, 8, .inl (fun _ => 0))), ((u43 2), .inl (G 0, 8, .inl (fun _ => 0))), ((u43 3), .inl (G 0, 8, .inl (fun _ => 0))), (q44, .inr (3, [.int 0, .ref (u47 0), .ref (u47 1)])), ((u47 0), .inl (G 0, 6, .inl (fun _ => 0))), ((u47 1), .inl (G 0, 6, .inl (fun _ => 0))), (q48, .inr (8, [.int 0, .ref (u51 0), .ref (u51 1)])), ((u51 0), .inl (G 4, 11, .inr (.inr (.inr (.inr (fun ir => if ir < 11 then some (u52 ir) else none)))))), ((u51 1), .inl (G 4, 11, .inr (.inr (.inr (.inr (fun ir => if ir < 11 then some (u53 ir) else none)))))), ((u52 0), .inl (G 0, 10, .inl (fun _ => 0))), ((u52 1), .inl (G 0, 10, .inl (fun _ => 0))), ((u52 2), .inl (G 0, 10, .inl (fun _ => 0))), ((u52 3), .inl (G 0, 10, .inl (fun _ => 0))), ((u52 4), .inl (G 0, 10, .inl (fun _ => 0))), ((u52 5), .inl (G 0, 10, .inl (fun _ => 0))), ((u52 6), .inl (G 0, 10, .inl (fun _ => 0))), ((u52 7), .inl (G 0, 10, .inl (fun _ => 0))), ((u52 8), .inl (G 0, 10, .inl (fun _ => 0))), ((u52 9), .inl (G 0, 10, .inl (fun _ => 0))), ((u52 10), .inl (G 0, 10, .inl (fun _ => 0))), ((u53 0), .inl (G 0, 10, .inl (fun _ => 0))), ((u53 1), .inl (G 0, 10, .inl (fun _ => 0))), ((u53 2), .inl (G 0, 10, .inl (fun _ => 0))), ((u53 3), .inl (G 0, 10, .inl (fun _ => 0))), ((u53 4), .inl (G 0, 10, .inl (fun _ => 0))), ((u53 5), .inl (G 0, 10, .inl (fun _ => 0))), ((u53 6), .inl (G 0, 10, .inl (fun _ => 0))), ((u53 7), .inl (G 0, 10, .inl (fun _ => 0))), ((u53 8), .inl (G 0, 10, .inl (fun _ => 0))), ((u53 9), .inl (G 0, 10, .inl (fun _ => 0))), ((u53 10), .inl (G 0, 10, .inl (fun _ => 0)))]) hP hD rfl
        refine lv_aload_n hx hb dX10_init_144 rfl (lv_at hl 1 rfl) ?_
        refine va_new (ci := 6) (fs := [.null, .null, .null, .int 0, .int 0, .null, .null]) (C := RX6) (T := TX6) (N := 7) hx hb hg inG6 tyX6 tyX6_ok hown (hg _ wt_269) (hg _ wt_270) (hg _ wt_11) hK.1 hP hD hS hA rfl nwX6 (Nat.le_of_ble_eq_true rfl) (Nat.le_of_ble_eq_true rfl) dX10_init_145 (fun q54 H hP hD hS => ?_)
        obtain ⟨hP, hD⟩ := va_rls (ws' := [(h0, .inr (10, [.ref q1, .ref q5, .ref q9, .ref q13, .ref q25, .ref q26, .ref q30, .ref q36, .ref q40, .ref q44, .ref q48, .null, .int 0, .int 0])), (q1, .inr (5, [.ref (u4 0), .ref (u4 1), .int 0, .int 0, .int 0, .int 0, .int 0, .int 0, .int 0, .int 0, .int 0, .int 0])), ((u4 0), .inr (7, [.int 0, .ref (u4 2)])), ((u4 2), .inl (G 0, 320, .inl (fun _ => 0))), ((u4 1), .inr (9, [.int 0, .int 0, .int 5, .ref (u4 3), .ref (u4 4), .ref (u4 5), .ref (u4 6), .ref (u4 7), .ref (u4 8)])), ((u4 3), .inl (G 0, 10, .inl (fun _ => 0))), ((u4 4), .inl (G 0, 10, .inl (fun _ => 0))), ((u4 5), .inl (G 0, 10, .inl (fun _ => 0))), ((u4 6), .inl (G 0, 6, .inl (fun _ => 0))), ((u4 7), .inl (G 0, 6, .inl (fun _ => 0))), ((u4 8), .inl (G 0, 6, .inl (fun _ => 0))), (q5, .inr (9, [.int 0, .int 0, .int 5, .ref (u8 0), .ref (u8 1), .ref (u8 2), .ref (u8 3), .ref (u8 4), .ref (u8 5)])), ((u8 0), .inl (G 0, 10, .inl (fun _ => 0))), ((u8 1), .inl (G 0, 10, .inl (fun _ => 0))), ((u8 2), .inl (G 0, 10, .inl (fun _ => 0))), ((u8 3), .inl (G 0, 6, .inl (fun _ => 0))), ((u8 4), .inl (G 0, 6, .inl (fun _ => 0))), ((u8 5), .inl (G 0, 6, .inl (fun _ => 0))), (q9, .inr (9, [.int 0, .int 0, .int 5, .ref (u12 0), .ref (u12 1), .ref (u12 2), .ref (u12 3), .ref (u12 4), .ref (u12 5)])), ((u12 0), .inl (G 0, 10, .inl (fun _ => 0))), ((u12 1), .inl (G 0, 10, .inl (fun _ => 0))), ((u12 2), .inl (G 0, 10, .inl (fun _ => 0))), ((u12 3), .inl (G 0, 6, .inl (fun _ => 0))), ((u12 4), .inl (G 0, 6, .inl (fun _ => 0))), ((u12 5), .inl (G 0, 6, .inl (fun _ => 0))), (q13, .inl (G 3, 2, .inr (.inr (.inr (.inr (va_up (va_up (fun _ => none) 0 (some q15)) 1 (some q20))))))), (q15, .inr (9, [.int 0, .int 0, .int 5, .ref (u18 0), .ref (u18 1), .ref (u18 2), .ref (u18 3), .ref (u18 4), .ref (u18 5)])), ((u18 0), .inl (G 0, 10, .inl (fun _ => 0))), ((u18 1), .inl (G 0, 10, .inl (fun _ => 0))), ((u18 2), .inl (G 0, 10, .inl (fun _ => 0))), ((u18 3), .inl (G 0, 6, .inl (fun _ => 0))), ((u18 4), .inl (G 0, 6, .inl (fun _ => 0))), ((u18 5), .inl (G 0, 6, .inl (fun _ => 0))), (q20, .inr (9, [.int 0, .int 0, .int 5, .ref (u23 0), .ref (u23 1), .ref (u23 2), .ref (u23 3), .ref (u23 4), .ref (u23 5)])), ((u23 0), .inl (G 0, 10, .inl (fun _ => 0))), ((u23 1), .inl (G 0, 10, .inl (fun _ => 0))), ((u23 2), .inl (G 0, 10, .inl (fun _ => 0))), ((u23 3), .inl (G 0, 6, .inl (fun _ => 0))), ((u23 4), .inl (G 0, 6, .inl (fun _ => 0))), ((u23 5), .inl (G 0, 6, .inl (fun _ => 0))), (q25, .inl (G 2, 2, .inl (fun _ => 0))), (q26, .inr (4, [.long 1, .ref (u29 0), .ref (u29 1)])), ((u29 0), .inl (G 1, 10, .inr (.inl (fun _ => 0)))), ((u29 1), .inl (G 1, 10, .inr (.inl (fun _ => 0)))), (q30, .inr (0, [.long 1, .ref (u33 0), .ref (u33 1)])), ((u33 0), .inl (G 5, 11, .inr (.inr (.inr (.inr (fun ir => if ir < 11 then some (u34 ir) else none)))))), ((u33 1), .inl (G 4, 10, .inr (.inr (.inr (.inr (fun ir => if ir < 10 then some (u35 ir) else none)))))), ((u34 0), .inl (G 1, 70, .inr (.inl (fun _ => 0)))), ((u34 1), .inl (G 1, 70, .inr (.inl (fun _ => 0)))), ((u34 2), .inl (G 1, 70, .inr (.inl (fun _ => 0)))), ((u34 3), .inl (G 1, 70, .inr (.inl (fun _ => 0)))), ((u34 4), .inl (G 1, 70, .inr (.inl (fun _ => 0)))), ((u34 5), .inl (G 1, 70, .inr (.inl (fun _ => 0)))), ((u34 6), .inl (G 1, 70, .inr (.inl (fun _ => 0)))), ((u34 7), .inl (G 1, 70, .inr (.inl (fun _ => 0)))), ((u34 8), .inl (G 1, 70, .inr (.inl (fun _ => 0)))), ((u34 9), .inl (G 1, 70, .inr (.inl (fun _ => 0)))), ((u34 10), .inl (G 1, 70, .inr (.inl (fun _ => 0)))), ((u35 0), .inl (G 0, 70, .inl (fun _ => 0))), ((u35 1), .inl (G 0, 70, .inl (fun _ => 0))), ((u35 2), .inl (G 0, 70, .inl (fun _ => 0))), ((u35 3), .inl (G 0, 70, .inl (fun _ => 0))), ((u35 4), .inl (G 0, 70, .inl (fun _ => 0))), ((u35 5), .inl (G 0, 70, .inl (fun _ => 0))), ((u35 6), .inl (G 0, 70, .inl (fun _ => 0))), ((u35 7), .inl (G 0, 70, .inl (fun _ => 0))), ((u35 8), .inl (G 0, 70, .inl (fun _ => 0))), ((u35 9), .inl (G 0, 70, .inl (fun _ => 0))), (q36, .inr (1, [.int 0, .int 0, .int 0])), (q40, .inr (2, [.int 0, .ref (u43 0), .ref (u43 1), .ref (u43 2), .ref (u43 3)])), ((u43 0), .inl (G 0, 8, .inl (fun _ => 0))), ((u43 1), .inl (G 0, 8, .inl (fun _ => 0))), ((u43 2), .inl (G 0, 8, .inl (fun _ => 0))), ((u43 3), .inl (G 0, 8, .inl (fun _ => 0))), (q44, .inr (3, [.int 0, .ref (u47 0), .ref (u47 1)])), ((u47 0), .inl (G 0, 6, .inl (fun _ => 0))), ((u47 1), .inl (G 0, 6, .inl (fun _ => 0))), (q48, .inr (8, [.int 0, .ref (u51 0), .ref (u51 1)])), ((u51 0), .inl (G 4, 11, .inr (.inr (.inr (.inr (fun ir => if ir < 11 then some (u52 ir) else none)))))), ((u51 1), .inl (G 4, 11, .inr (.inr (.inr (.inr (fun ir => if ir < 11 then some (u53 ir) else none)))))), ((u52 0), .inl (G 0, 10, .inl (fun _ => 0))), ((u52 1), .inl (G 0, 10, .inl (fun _ => 0))), ((u52 2), .inl (G 0, 10, .inl (fun _ => 0))), ((u52 3), .inl (G 0, 10, .inl (fun _ => 0))), ((u52 4), .inl (G 0, 10, .inl (fun _ => 0))), ((u52 5), .inl (G 0, 10, .inl (fun _ => 0))), ((u52 6), .inl (G 0, 10, .inl (fun _ => 0))), ((u52 7), .inl (G 0, 10, .inl (fun _ => 0))), ((u52 8), .inl (G 0, 10, .inl (fun _ => 0))), ((u52 9), .inl (G 0, 10, .inl (fun _ => 0))), ((u52 10), .inl (G 0, 10, .inl (fun _ => 0))), ((u53 0), .inl (G 0, 10, .inl (fun _ => 0))), ((u53 1), .inl (G 0, 10, .inl (fun _ => 0))), ((u53 2), .inl (G 0, 10, .inl (fun _ => 0))), ((u53 3), .inl (G 0, 10, .inl (fun _ => 0))), ((u53 4), .inl (G 0, 10, .inl (fun _ => 0))), ((u53 5), .inl (G 0, 10, .inl (fun _ => 0))), ((u53 6), .inl (G 0, 10, .inl (fun _ => 0))), ((u53 7), .inl (G 0, 10, .inl (fun _ => 0))), ((u53 8), .inl (G 0, 10, .inl (fun _ => 0))), ((u53 9), .inl (G 0, 10, .inl (fun _ => 0))), ((u53 10), .inl (G 0, 10, .inl (fun _ => 0))), (q54, .inr (6, [.null, .null, .null, .int 0, .int 0, .null, .null]))]) hP hD rfl
        refine W.widen (k := 102) (n := 2447) (Nat.le_of_ble_eq_true rfl) (Nat.le_of_ble_eq_true rfl) ?_
        refine lv_dup hx hb dX10_init_148 rfl ?_
        obtain ⟨hPc, hDc, hFc⟩ := va_sub3 (ws' := [(q54, .inr (6, [.null, .null, .null, .int 0, .int 0, .null, .null]))]) hP hD hS hA [102] (by decide +kernel) rfl
        refine va_callv (va_runIN (As := []) (rest := [.ref q54, .ref h0]) ⟨hx, hb, hml, hown, hg⟩ (c_X6_init l dC dI G _ q54) (kwIN hg hK mfX6_init wn_271 ⟨Nat.le_of_ble_eq_true rfl, Nat.le_of_ble_eq_true rfl⟩) (preSW hK hPc hDc) rfl rfl hl.1 rfl (lv_room (Nat.le_of_ble_eq_true rfl)) dX10_init_149 ⟨Nat.le_of_ble_eq_true rfl, Nat.le_of_ble_eq_true rfl⟩) hS (fun q _ h => hFc q h) hFc (fun ur55 t H1 locs ht hvm w56 hB hz1 hk1 hS => ?_)
        obtain ⟨u57, u58⟩ := ur55
        obtain ⟨hP1, hD1⟩ := hB
        rw [ht] at hP1
        obtain ⟨hP, hD⟩ := va_join (wr := [(h0, .inr (10, [.ref q1, .ref q5, .ref q9, .ref q13, .ref q25, .ref q26, .ref q30, .ref q36, .ref q40, .ref q44, .ref q48, .null, .int 0, .int 0])), (q1, .inr (5, [.ref (u4 0), .ref (u4 1), .int 0, .int 0, .int 0, .int 0, .int 0, .int 0, .int 0, .int 0, .int 0, .int 0])), ((u4 0), .inr (7, [.int 0, .ref (u4 2)])), ((u4 2), .inl (G 0, 320, .inl (fun _ => 0))), ((u4 1), .inr (9, [.int 0, .int 0, .int 5, .ref (u4 3), .ref (u4 4), .ref (u4 5), .ref (u4 6), .ref (u4 7), .ref (u4 8)])), ((u4 3), .inl (G 0, 10, .inl (fun _ => 0))), ((u4 4), .inl (G 0, 10, .inl (fun _ => 0))), ((u4 5), .inl (G 0, 10, .inl (fun _ => 0))), ((u4 6), .inl (G 0, 6, .inl (fun _ => 0))), ((u4 7), .inl (G 0, 6, .inl (fun _ => 0))), ((u4 8), .inl (G 0, 6, .inl (fun _ => 0))), (q5, .inr (9, [.int 0, .int 0, .int 5, .ref (u8 0), .ref (u8 1), .ref (u8 2), .ref (u8 3), .ref (u8 4), .ref (u8 5)])), ((u8 0), .inl (G 0, 10, .inl (fun _ => 0))), ((u8 1), .inl (G 0, 10, .inl (fun _ => 0))), ((u8 2), .inl (G 0, 10, .inl (fun _ => 0))), ((u8 3), .inl (G 0, 6, .inl (fun _ => 0))), ((u8 4), .inl (G 0, 6, .inl (fun _ => 0))), ((u8 5), .inl (G 0, 6, .inl (fun _ => 0))), (q9, .inr (9, [.int 0, .int 0, .int 5, .ref (u12 0), .ref (u12 1), .ref (u12 2), .ref (u12 3), .ref (u12 4), .ref (u12 5)])), ((u12 0), .inl (G 0, 10, .inl (fun _ => 0))), ((u12 1), .inl (G 0, 10, .inl (fun _ => 0))), ((u12 2), .inl (G 0, 10, .inl (fun _ => 0))), ((u12 3), .inl (G 0, 6, .inl (fun _ => 0))), ((u12 4), .inl (G 0, 6, .inl (fun _ => 0))), ((u12 5), .inl (G 0, 6, .inl (fun _ => 0))), (q13, .inl (G 3, 2, .inr (.inr (.inr (.inr (va_up (va_up (fun _ => none) 0 (some q15)) 1 (some q20))))))), (q15, .inr (9, [.int 0, .int 0, .int 5, .ref (u18 0), .ref (u18 1), .ref (u18 2), .ref (u18 3), .ref (u18 4), .ref (u18 5)])), ((u18 0), .inl (G 0, 10, .inl (fun _ => 0))), ((u18 1), .inl (G 0, 10, .inl (fun _ => 0))), ((u18 2), .inl (G 0, 10, .inl (fun _ => 0))), ((u18 3), .inl (G 0, 6, .inl (fun _ => 0))), ((u18 4), .inl (G 0, 6, .inl (fun _ => 0))), ((u18 5), .inl (G 0, 6, .inl (fun _ => 0))), (q20, .inr (9, [.int 0, .int 0, .int 5, .ref (u23 0), .ref (u23 1), .ref (u23 2), .ref (u23 3), .ref (u23 4), .ref (u23 5)])), ((u23 0), .inl (G 0, 10, .inl (fun _ => 0))), ((u23 1), .inl (G 0, 10, .inl (fun _ => 0))), ((u23 2), .inl (G 0, 10, .inl (fun _ => 0))), ((u23 3), .inl (G 0, 6, .inl (fun _ => 0))), ((u23 4), .inl (G 0, 6, .inl (fun _ => 0))), ((u23 5), .inl (G 0, 6, .inl (fun _ => 0))), (q25, .inl (G 2, 2, .inl (fun _ => 0))), (q26, .inr (4, [.long 1, .ref (u29 0), .ref (u29 1)])), ((u29 0), .inl (G 1, 10, .inr (.inl (fun _ => 0)))), ((u29 1), .inl (G 1, 10, .inr (.inl (fun _ => 0)))), (q30, .inr (0, [.long 1, .ref (u33 0), .ref (u33 1)])), ((u33 0), .inl (G 5, 11, .inr (.inr (.inr (.inr (fun ir => if ir < 11 then some (u34 ir) else none)))))), ((u33 1), .inl (G 4, 10, .inr (.inr (.inr (.inr (fun ir => if ir < 10 then some (u35 ir) else none)))))), ((u34 0), .inl (G 1, 70, .inr (.inl (fun _ => 0)))), ((u34 1), .inl (G 1, 70, .inr (.inl (fun _ => 0)))), ((u34 2), .inl (G 1, 70, .inr (.inl (fun _ => 0)))), ((u34 3), .inl (G 1, 70, .inr (.inl (fun _ => 0)))), ((u34 4), .inl (G 1, 70, .inr (.inl (fun _ => 0)))), ((u34 5), .inl (G 1, 70, .inr (.inl (fun _ => 0)))), ((u34 6), .inl (G 1, 70, .inr (.inl (fun _ => 0)))), ((u34 7), .inl (G 1, 70, .inr (.inl (fun _ => 0)))), ((u34 8), .inl (G 1, 70, .inr (.inl (fun _ => 0)))), ((u34 9), .inl (G 1, 70, .inr (.inl (fun _ => 0)))), ((u34 10), .inl (G 1, 70, .inr (.inl (fun _ => 0)))), ((u35 0), .inl (G 0, 70, .inl (fun _ => 0))), ((u35 1), .inl (G 0, 70, .inl (fun _ => 0))), ((u35 2), .inl (G 0, 70, .inl (fun _ => 0))), ((u35 3), .inl (G 0, 70, .inl (fun _ => 0))), ((u35 4), .inl (G 0, 70, .inl (fun _ => 0))), ((u35 5), .inl (G 0, 70, .inl (fun _ => 0))), ((u35 6), .inl (G 0, 70, .inl (fun _ => 0))), ((u35 7), .inl (G 0, 70, .inl (fun _ => 0))), ((u35 8), .inl (G 0, 70, .inl (fun _ => 0))), ((u35 9), .inl (G 0, 70, .inl (fun _ => 0))), (q36, .inr (1, [.int 0, .int 0, .int 0])), (q40, .inr (2, [.int 0, .ref (u43 0), .ref (u43 1), .ref (u43 2), .ref (u43 3)])), ((u43 0), .inl (G 0, 8, .inl (fun _ => 0))), ((u43 1), .inl (G 0, 8, .inl (fun _ => 0))), ((u43 2), .inl (G 0, 8, .inl (fun _ => 0))), ((u43 3), .inl (G 0, 8, .inl (fun _ => 0))), (q44, .inr (3, [.int 0, .ref (u47 0), .ref (u47 1)])), ((u47 0), .inl (G 0, 6, .inl (fun _ => 0))), ((u47 1), .inl (G 0, 6, .inl (fun _ => 0))), (q48, .inr (8, [.int 0, .ref (u51 0), .ref (u51 1)])), ((u51 0), .inl (G 4, 11, .inr (.inr (.inr (.inr (fun ir => if ir < 11 then some (u52 ir) else none)))))), ((u51 1), .inl (G 4, 11, .inr (.inr (.inr (.inr (fun ir => if ir < 11 then some (u53 ir) else none)))))), ((u52 0), .inl (G 0, 10, .inl (fun _ => 0))), ((u52 1), .inl (G 0, 10, .inl (fun _ => 0))), ((u52 2), .inl (G 0, 10, .inl (fun _ => 0))), ((u52 3), .inl (G 0, 10, .inl (fun _ => 0))), ((u52 4), .inl (G 0, 10, .inl (fun _ => 0))), ((u52 5), .inl (G 0, 10, .inl (fun _ => 0))), ((u52 6), .inl (G 0, 10, .inl (fun _ => 0))), ((u52 7), .inl (G 0, 10, .inl (fun _ => 0))), ((u52 8), .inl (G 0, 10, .inl (fun _ => 0))), ((u52 9), .inl (G 0, 10, .inl (fun _ => 0))), ((u52 10), .inl (G 0, 10, .inl (fun _ => 0))), ((u53 0), .inl (G 0, 10, .inl (fun _ => 0))), ((u53 1), .inl (G 0, 10, .inl (fun _ => 0))), ((u53 2), .inl (G 0, 10, .inl (fun _ => 0))), ((u53 3), .inl (G 0, 10, .inl (fun _ => 0))), ((u53 4), .inl (G 0, 10, .inl (fun _ => 0))), ((u53 5), .inl (G 0, 10, .inl (fun _ => 0))), ((u53 6), .inl (G 0, 10, .inl (fun _ => 0))), ((u53 7), .inl (G 0, 10, .inl (fun _ => 0))), ((u53 8), .inl (G 0, 10, .inl (fun _ => 0))), ((u53 9), .inl (G 0, 10, .inl (fun _ => 0))), ((u53 10), .inl (G 0, 10, .inl (fun _ => 0)))]) (w1 := [(q54, .inr (6, [.ref (u57 0), .ref (u57 1), .ref (u57 2), .int 0, .int 0, .ref (u57 3), .ref (u57 4)])), ((u57 0), .inl (G 0, 4, .inl (upd (upd (upd (upd (fun _ => 0) 0 (-1)) 1 (-1)) 2 (-1)) 3 (-1)))), ((u57 1), .inl (G 0, 4, .inl (fun _ => 0))), ((u57 2), .inl (G 4, 4, .inr (.inr (.inr (.inr (fun ir => if ir < 4 then some (u58 ir) else none)))))), ((u57 3), .inl (G 0, 20, .inl (fun _ => 0))), ((u57 4), .inl (G 0, 20, .inl (fun _ => 0))), ((u58 0), .inl (G 0, 40, .inl (fun _ => 0))), ((u58 1), .inl (G 0, 40, .inl (fun _ => 0))), ((u58 2), .inl (G 0, 40, .inl (fun _ => 0))), ((u58 3), .inl (G 0, 40, .inl (fun _ => 0)))]) hP hD [102] [0, 1, 2, 3, 4, 5, 6, 7, 8, 9, 10, 11, 12, 13, 14, 15, 16, 17, 18, 19, 20, 21, 22, 23, 24, 25, 26, 27, 28, 29, 30, 31, 32, 33, 34, 35, 36, 37, 38, 39, 40, 41, 42, 43, 44, 45, 46, 47, 48, 49, 50, 51, 52, 53, 54, 55, 56, 57, 58, 59, 60, 61, 62, 63, 64, 65, 66, 67, 68, 69, 70, 71, 72, 73, 74, 75, 76, 77, 78, 79, 80, 81, 82, 83, 84, 85, 86, 87, 88, 89, 90, 91, 92, 93, 94, 95, 96, 97, 98, 99, 100, 101] rfl rfl (by decide +kernel) (by decide +kernel) hk1 hFc hP1 hD1
        generalize H1 = H at hP hS ⊢
        obtain ⟨hP, hD⟩ := va_rls (ws' := [(h0, .inr (10, [.ref q1, .ref q5, .ref q9, .ref q13, .ref q25, .ref q26, .ref q30, .ref q36, .ref q40, .ref q44, .ref q48, .null, .int 0, .int 0])), (q1, .inr (5, [.ref (u4 0), .ref (u4 1), .int 0, .int 0, .int 0, .int 0, .int 0, .int 0, .int 0, .int 0, .int 0, .int 0])), ((u4 0), .inr (7, [.int 0, .ref (u4 2)])), ((u4 2), .inl (G 0, 320, .inl (fun _ => 0))), ((u4 1), .inr (9, [.int 0, .int 0, .int 5, .ref (u4 3), .ref (u4 4), .ref (u4 5), .ref (u4 6), .ref (u4 7), .ref (u4 8)])), ((u4 3), .inl (G 0, 10, .inl (fun _ => 0))), ((u4 4), .inl (G 0, 10, .inl (fun _ => 0))), ((u4 5), .inl (G 0, 10, .inl (fun _ => 0))), ((u4 6), .inl (G 0, 6, .inl (fun _ => 0))), ((u4 7), .inl (G 0, 6, .inl (fun _ => 0))), ((u4 8), .inl (G 0, 6, .inl (fun _ => 0))), (q5, .inr (9, [.int 0, .int 0, .int 5, .ref (u8 0), .ref (u8 1), .ref (u8 2), .ref (u8 3), .ref (u8 4), .ref (u8 5)])), ((u8 0), .inl (G 0, 10, .inl (fun _ => 0))), ((u8 1), .inl (G 0, 10, .inl (fun _ => 0))), ((u8 2), .inl (G 0, 10, .inl (fun _ => 0))), ((u8 3), .inl (G 0, 6, .inl (fun _ => 0))), ((u8 4), .inl (G 0, 6, .inl (fun _ => 0))), ((u8 5), .inl (G 0, 6, .inl (fun _ => 0))), (q9, .inr (9, [.int 0, .int 0, .int 5, .ref (u12 0), .ref (u12 1), .ref (u12 2), .ref (u12 3), .ref (u12 4), .ref (u12 5)])), ((u12 0), .inl (G 0, 10, .inl (fun _ => 0))), ((u12 1), .inl (G 0, 10, .inl (fun _ => 0))), ((u12 2), .inl (G 0, 10, .inl (fun _ => 0))), ((u12 3), .inl (G 0, 6, .inl (fun _ => 0))), ((u12 4), .inl (G 0, 6, .inl (fun _ => 0))), ((u12 5), .inl (G 0, 6, .inl (fun _ => 0))), (q13, .inl (G 3, 2, .inr (.inr (.inr (.inr (va_up (va_up (fun _ => none) 0 (some q15)) 1 (some q20))))))), (q15, .inr (9, [.int 0, .int 0, .int 5, .ref (u18 0), .ref (u18 1), .ref (u18 2), .ref (u18 3), .ref (u18 4), .ref (u18 5)])), ((u18 0), .inl (G 0, 10, .inl (fun _ => 0))), ((u18 1), .inl (G 0, 10, .inl (fun _ => 0))), ((u18 2), .inl (G 0, 10, .inl (fun _ => 0))), ((u18 3), .inl (G 0, 6, .inl (fun _ => 0))), ((u18 4), .inl (G 0, 6, .inl (fun _ => 0))), ((u18 5), .inl (G 0, 6, .inl (fun _ => 0))), (q20, .inr (9, [.int 0, .int 0, .int 5, .ref (u23 0), .ref (u23 1), .ref (u23 2), .ref (u23 3), .ref (u23 4), .ref (u23 5)])), ((u23 0), .inl (G 0, 10, .inl (fun _ => 0))), ((u23 1), .inl (G 0, 10, .inl (fun _ => 0))), ((u23 2), .inl (G 0, 10, .inl (fun _ => 0))), ((u23 3), .inl (G 0, 6, .inl (fun _ => 0))), ((u23 4), .inl (G 0, 6, .inl (fun _ => 0))), ((u23 5), .inl (G 0, 6, .inl (fun _ => 0))), (q25, .inl (G 2, 2, .inl (fun _ => 0))), (q26, .inr (4, [.long 1, .ref (u29 0), .ref (u29 1)])), ((u29 0), .inl (G 1, 10, .inr (.inl (fun _ => 0)))), ((u29 1), .inl (G 1, 10, .inr (.inl (fun _ => 0)))), (q30, .inr (0, [.long 1, .ref (u33 0), .ref (u33 1)])), ((u33 0), .inl (G 5, 11, .inr (.inr (.inr (.inr (fun ir => if ir < 11 then some (u34 ir) else none)))))), ((u33 1), .inl (G 4, 10, .inr (.inr (.inr (.inr (fun ir => if ir < 10 then some (u35 ir) else none)))))), ((u34 0), .inl (G 1, 70, .inr (.inl (fun _ => 0)))), ((u34 1), .inl (G 1, 70, .inr (.inl (fun _ => 0)))), ((u34 2), .inl (G 1, 70, .inr (.inl (fun _ => 0)))), ((u34 3), .inl (G 1, 70, .inr (.inl (fun _ => 0)))), ((u34 4), .inl (G 1, 70, .inr (.inl (fun _ => 0)))), ((u34 5), .inl (G 1, 70, .inr (.inl (fun _ => 0)))), ((u34 6), .inl (G 1, 70, .inr (.inl (fun _ => 0)))), ((u34 7), .inl (G 1, 70, .inr (.inl (fun _ => 0)))), ((u34 8), .inl (G 1, 70, .inr (.inl (fun _ => 0)))), ((u34 9), .inl (G 1, 70, .inr (.inl (fun _ => 0)))), ((u34 10), .inl (G 1, 70, .inr (.inl (fun _ => 0)))), ((u35 0), .inl (G 0, 70, .inl (fun _ => 0))), ((u35 1), .inl (G 0, 70, .inl (fun _ => 0))), ((u35 2), .inl (G 0, 70, .inl (fun _ => 0))), ((u35 3), .inl (G 0, 70, .inl (fun _ => 0))), ((u35 4), .inl (G 0, 70, .inl (fun _ => 0))), ((u35 5), .inl (G 0, 70, .inl (fun _ => 0))), ((u35 6), .inl (G 0, 70, .inl (fun _ => 0))), ((u35 7), .inl (G 0, 70, .inl (fun _ => 0))), ((u35 8), .inl (G 0, 70, .inl (fun _ => 0))), ((u35 9), .inl (G 0, 70, .inl (fun _ => 0))), (q36, .inr (1, [.int 0, .int 0, .int 0])), (q40, .inr (2, [.int 0, .ref (u43 0), .ref (u43 1), .ref (u43 2), .ref (u43 3)])), ((u43 0), .inl (G 0, 8, .inl (fun _ => 0))), ((u43 1), .inl (G 0, 8, .inl (fun _ => 0))), ((u43 2), .inl (G 0, 8, .inl (fun _ => 0))), ((u43 3), .inl (G 0, 8, .inl (fun _ => 0))), (q44, .inr (3, [.int 0, .ref (u47 0), .ref (u47 1)])), ((u47 0), .inl (G 0, 6, .inl (fun _ => 0))), ((u47 1), .inl (G 0, 6, .inl (fun _ => 0))), (q48, .inr (8, [.int 0, .ref (u51 0), .ref (u51 1)])), ((u51 0), .inl (G 4, 11, .inr (.inr (.inr (.inr (fun ir => if ir < 11 then some (u52 ir) else none)))))), ((u51 1), .inl (G 4, 11, .inr (.inr (.inr (.inr (fun ir => if ir < 11 then some (u53 ir) else none)))))), ((u52 0), .inl (G 0, 10, .inl (fun _ => 0))), ((u52 1), .inl (G 0, 10, .inl (fun _ => 0))), ((u52 2), .inl (G 0, 10, .inl (fun _ => 0))), ((u52 3), .inl (G 0, 10, .inl (fun _ => 0))), ((u52 4), .inl (G 0, 10, .inl (fun _ => 0))), ((u52 5), .inl (G 0, 10, .inl (fun _ => 0))), ((u52 6), .inl (G 0, 10, .inl (fun _ => 0))), ((u52 7), .inl (G 0, 10, .inl (fun _ => 0))), ((u52 8), .inl (G 0, 10, .inl (fun _ => 0))), ((u52 9), .inl (G 0, 10, .inl (fun _ => 0))), ((u52 10), .inl (G 0, 10, .inl (fun _ => 0))), ((u53 0), .inl (G 0, 10, .inl (fun _ => 0))), ((u53 1), .inl (G 0, 10, .inl (fun _ => 0))), ((u53 2), .inl (G 0, 10, .inl (fun _ => 0))), ((u53 3), .inl (G 0, 10, .inl (fun _ => 0))), ((u53 4), .inl (G 0, 10, .inl (fun _ => 0))), ((u53 5), .inl (G 0, 10, .inl (fun _ => 0))), ((u53 6), .inl (G 0, 10, .inl (fun _ => 0))), ((u53 7), .inl (G 0, 10, .inl (fun _ => 0))), ((u53 8), .inl (G 0, 10, .inl (fun _ => 0))), ((u53 9), .inl (G 0, 10, .inl (fun _ => 0))), ((u53 10), .inl (G 0, 10, .inl (fun _ => 0))), (q54, .inr (6, [.ref (u57 0), .ref (u57 1), .ref (u57 2), .int 0, .int 0, .ref (u57 3), .ref (u57 4)])), ((u57 0), .inl (G 0, 4, .inl (upd (upd (upd (upd (fun _ => 0) 0 (-1)) 1 (-1)) 2 (-1)) 3 (-1)))), ((u57 1), .inl (G 0, 4, .inl (fun _ => 0))), ((u57 2), .inl (G 4, 4, .inr (.inr (.inr (.inr (fun ir => if ir < 4 then some (u58 ir) else none)))))), ((u57 3), .inl (G 0, 20, .inl (fun _ => 0))), ((u57 4), .inl (G 0, 20, .inl (fun _ => 0))), ((u58 0), .inl (G 0, 40, .inl (fun _ => 0))), ((u58 1), .inl (G 0, 40, .inl (fun _ => 0))), ((u58 2), .inl (G 0, 40, .inl (fun _ => 0))), ((u58 3), .inl (G 0, 40, .inl (fun _ => 0)))]) hP hD rfl
        refine W.widen (k := 111) (n := 2659) (Nat.le_of_ble_eq_true rfl) (Nat.le_of_ble_eq_true rfl) ?_
        refine va_putF (D := (dC, dI)) (ci := 10) (v := .ref q54) (ty := (.object "AsleepPass$Sheets")) (C := RX10) (T := TX10) (N := 14) hx hb hg inG10 tyX10 tyX10_ok nmX10 hown hK.1 hP hD hS 0 rfl rfl 11 (Nat.le_of_ble_eq_true rfl) (hg _ wt_313) (fun _ h9 => h9) rfl hin rfl (by decide +kernel) rfl rfl (Nat.le_of_ble_eq_true rfl) dX10_init_152 (fun H locs hP hD hS => ?_)
        obtain ⟨hP, hD⟩ := va_rls (ws' := [(h0, .inr (10, [.ref q1, .ref q5, .ref q9, .ref q13, .ref q25, .ref q26, .ref q30, .ref q36, .ref q40, .ref q44, .ref q48, .ref q54, .int 0, .int 0])), (q1, .inr (5, [.ref (u4 0), .ref (u4 1), .int 0, .int 0, .int 0, .int 0, .int 0, .int 0, .int 0, .int 0, .int 0, .int 0])), ((u4 0), .inr (7, [.int 0, .ref (u4 2)])), ((u4 2), .inl (G 0, 320, .inl (fun _ => 0))), ((u4 1), .inr (9, [.int 0, .int 0, .int 5, .ref (u4 3), .ref (u4 4), .ref (u4 5), .ref (u4 6), .ref (u4 7), .ref (u4 8)])), ((u4 3), .inl (G 0, 10, .inl (fun _ => 0))), ((u4 4), .inl (G 0, 10, .inl (fun _ => 0))), ((u4 5), .inl (G 0, 10, .inl (fun _ => 0))), ((u4 6), .inl (G 0, 6, .inl (fun _ => 0))), ((u4 7), .inl (G 0, 6, .inl (fun _ => 0))), ((u4 8), .inl (G 0, 6, .inl (fun _ => 0))), (q5, .inr (9, [.int 0, .int 0, .int 5, .ref (u8 0), .ref (u8 1), .ref (u8 2), .ref (u8 3), .ref (u8 4), .ref (u8 5)])), ((u8 0), .inl (G 0, 10, .inl (fun _ => 0))), ((u8 1), .inl (G 0, 10, .inl (fun _ => 0))), ((u8 2), .inl (G 0, 10, .inl (fun _ => 0))), ((u8 3), .inl (G 0, 6, .inl (fun _ => 0))), ((u8 4), .inl (G 0, 6, .inl (fun _ => 0))), ((u8 5), .inl (G 0, 6, .inl (fun _ => 0))), (q9, .inr (9, [.int 0, .int 0, .int 5, .ref (u12 0), .ref (u12 1), .ref (u12 2), .ref (u12 3), .ref (u12 4), .ref (u12 5)])), ((u12 0), .inl (G 0, 10, .inl (fun _ => 0))), ((u12 1), .inl (G 0, 10, .inl (fun _ => 0))), ((u12 2), .inl (G 0, 10, .inl (fun _ => 0))), ((u12 3), .inl (G 0, 6, .inl (fun _ => 0))), ((u12 4), .inl (G 0, 6, .inl (fun _ => 0))), ((u12 5), .inl (G 0, 6, .inl (fun _ => 0))), (q13, .inl (G 3, 2, .inr (.inr (.inr (.inr (va_up (va_up (fun _ => none) 0 (some q15)) 1 (some q20))))))), (q15, .inr (9, [.int 0, .int 0, .int 5, .ref (u18 0), .ref (u18 1), .ref (u18 2), .ref (u18 3), .ref (u18 4), .ref (u18 5)])), ((u18 0), .inl (G 0, 10, .inl (fun _ => 0))), ((u18 1), .inl (G 0, 10, .inl (fun _ => 0))), ((u18 2), .inl (G 0, 10, .inl (fun _ => 0))), ((u18 3), .inl (G 0, 6, .inl (fun _ => 0))), ((u18 4), .inl (G 0, 6, .inl (fun _ => 0))), ((u18 5), .inl (G 0, 6, .inl (fun _ => 0))), (q20, .inr (9, [.int 0, .int 0, .int 5, .ref (u23 0), .ref (u23 1), .ref (u23 2), .ref (u23 3), .ref (u23 4), .ref (u23 5)])), ((u23 0), .inl (G 0, 10, .inl (fun _ => 0))), ((u23 1), .inl (G 0, 10, .inl (fun _ => 0))), ((u23 2), .inl (G 0, 10, .inl (fun _ => 0))), ((u23 3), .inl (G 0, 6, .inl (fun _ => 0))), ((u23 4), .inl (G 0, 6, .inl (fun _ => 0))), ((u23 5), .inl (G 0, 6, .inl (fun _ => 0))), (q25, .inl (G 2, 2, .inl (fun _ => 0))), (q26, .inr (4, [.long 1, .ref (u29 0), .ref (u29 1)])), ((u29 0), .inl (G 1, 10, .inr (.inl (fun _ => 0)))), ((u29 1), .inl (G 1, 10, .inr (.inl (fun _ => 0)))), (q30, .inr (0, [.long 1, .ref (u33 0), .ref (u33 1)])), ((u33 0), .inl (G 5, 11, .inr (.inr (.inr (.inr (fun ir => if ir < 11 then some (u34 ir) else none)))))), ((u33 1), .inl (G 4, 10, .inr (.inr (.inr (.inr (fun ir => if ir < 10 then some (u35 ir) else none)))))), ((u34 0), .inl (G 1, 70, .inr (.inl (fun _ => 0)))), ((u34 1), .inl (G 1, 70, .inr (.inl (fun _ => 0)))), ((u34 2), .inl (G 1, 70, .inr (.inl (fun _ => 0)))), ((u34 3), .inl (G 1, 70, .inr (.inl (fun _ => 0)))), ((u34 4), .inl (G 1, 70, .inr (.inl (fun _ => 0)))), ((u34 5), .inl (G 1, 70, .inr (.inl (fun _ => 0)))), ((u34 6), .inl (G 1, 70, .inr (.inl (fun _ => 0)))), ((u34 7), .inl (G 1, 70, .inr (.inl (fun _ => 0)))), ((u34 8), .inl (G 1, 70, .inr (.inl (fun _ => 0)))), ((u34 9), .inl (G 1, 70, .inr (.inl (fun _ => 0)))), ((u34 10), .inl (G 1, 70, .inr (.inl (fun _ => 0)))), ((u35 0), .inl (G 0, 70, .inl (fun _ => 0))), ((u35 1), .inl (G 0, 70, .inl (fun _ => 0))), ((u35 2), .inl (G 0, 70, .inl (fun _ => 0))), ((u35 3), .inl (G 0, 70, .inl (fun _ => 0))), ((u35 4), .inl (G 0, 70, .inl (fun _ => 0))), ((u35 5), .inl (G 0, 70, .inl (fun _ => 0))), ((u35 6), .inl (G 0, 70, .inl (fun _ => 0))), ((u35 7), .inl (G 0, 70, .inl (fun _ => 0))), ((u35 8), .inl (G 0, 70, .inl (fun _ => 0))), ((u35 9), .inl (G 0, 70, .inl (fun _ => 0))), (q36, .inr (1, [.int 0, .int 0, .int 0])), (q40, .inr (2, [.int 0, .ref (u43 0), .ref (u43 1), .ref (u43 2), .ref (u43 3)])), ((u43 0), .inl (G 0, 8, .inl (fun _ => 0))), ((u43 1), .inl (G 0, 8, .inl (fun _ => 0))), ((u43 2), .inl (G 0, 8, .inl (fun _ => 0))), ((u43 3), .inl (G 0, 8, .inl (fun _ => 0))), (q44, .inr (3, [.int 0, .ref (u47 0), .ref (u47 1)])), ((u47 0), .inl (G 0, 6, .inl (fun _ => 0))), ((u47 1), .inl (G 0, 6, .inl (fun _ => 0))), (q48, .inr (8, [.int 0, .ref (u51 0), .ref (u51 1)])), ((u51 0), .inl (G 4, 11, .inr (.inr (.inr (.inr (fun ir => if ir < 11 then some (u52 ir) else none)))))), ((u51 1), .inl (G 4, 11, .inr (.inr (.inr (.inr (fun ir => if ir < 11 then some (u53 ir) else none)))))), ((u52 0), .inl (G 0, 10, .inl (fun _ => 0))), ((u52 1), .inl (G 0, 10, .inl (fun _ => 0))), ((u52 2), .inl (G 0, 10, .inl (fun _ => 0))), ((u52 3), .inl (G 0, 10, .inl (fun _ => 0))), ((u52 4), .inl (G 0, 10, .inl (fun _ => 0))), ((u52 5), .inl (G 0, 10, .inl (fun _ => 0))), ((u52 6), .inl (G 0, 10, .inl (fun _ => 0))), ((u52 7), .inl (G 0, 10, .inl (fun _ => 0))), ((u52 8), .inl (G 0, 10, .inl (fun _ => 0))), ((u52 9), .inl (G 0, 10, .inl (fun _ => 0))), ((u52 10), .inl (G 0, 10, .inl (fun _ => 0))), ((u53 0), .inl (G 0, 10, .inl (fun _ => 0))), ((u53 1), .inl (G 0, 10, .inl (fun _ => 0))), ((u53 2), .inl (G 0, 10, .inl (fun _ => 0))), ((u53 3), .inl (G 0, 10, .inl (fun _ => 0))), ((u53 4), .inl (G 0, 10, .inl (fun _ => 0))), ((u53 5), .inl (G 0, 10, .inl (fun _ => 0))), ((u53 6), .inl (G 0, 10, .inl (fun _ => 0))), ((u53 7), .inl (G 0, 10, .inl (fun _ => 0))), ((u53 8), .inl (G 0, 10, .inl (fun _ => 0))), ((u53 9), .inl (G 0, 10, .inl (fun _ => 0))), ((u53 10), .inl (G 0, 10, .inl (fun _ => 0))), (q54, .inr (6, [.ref (u57 0), .ref (u57 1), .ref (u57 2), .int 0, .int 0, .ref (u57 3), .ref (u57 4)])), ((u57 0), .inl (G 0, 4, .inl (upd (upd (upd (upd (fun _ => 0) 0 (-1)) 1 (-1)) 2 (-1)) 3 (-1)))), ((u57 1), .inl (G 0, 4, .inl (fun _ => 0))), ((u57 2), .inl (G 4, 4, .inr (.inr (.inr (.inr (fun ir => if ir < 4 then some (u58 ir) else none)))))), ((u57 3), .inl (G 0, 20, .inl (fun _ => 0))), ((u57 4), .inl (G 0, 20, .inl (fun _ => 0))), ((u58 0), .inl (G 0, 40, .inl (fun _ => 0))), ((u58 1), .inl (G 0, 40, .inl (fun _ => 0))), ((u58 2), .inl (G 0, 40, .inl (fun _ => 0))), ((u58 3), .inl (G 0, 40, .inl (fun _ => 0)))]) hP hD rfl
        have hP9 := hP
        have hD9 := hD
        refine W.widen (k := 111) (n := 2659) (Nat.le_of_ble_eq_true rfl) (Nat.le_of_ble_eq_true rfl) ?_
        exact W.vret hx hb hr (fun t ht hW => ⟨⟨((fun k => match k with | 0 => q1 | 1 => q5 | 2 => q9 | 3 => q13 | 4 => q25 | 5 => q26 | 6 => q30 | 7 => q36 | 8 => q40 | 9 => q44 | 10 => q48 | 11 => q54 | 12 => (u4 0) | 13 => (u4 1) | 14 => (u4 2) | 15 => (u4 3) | 16 => (u4 4) | 17 => (u4 5) | 18 => (u4 6) | 19 => (u4 7) | 20 => (u4 8) | 21 => (u8 0) | 22 => (u8 1) | 23 => (u8 2) | 24 => (u8 3) | 25 => (u8 4) | 26 => (u8 5) | 27 => (u12 0) | 28 => (u12 1) | 29 => (u12 2) | 30 => (u12 3) | 31 => (u12 4) | 32 => (u12 5) | 33 => q15 | 34 => q20 | 35 => (u18 0) | 36 => (u18 1) | 37 => (u18 2) | 38 => (u18 3) | 39 => (u18 4) | 40 => (u18 5) | 41 => (u23 0) | 42 => (u23 1) | 43 => (u23 2) | 44 => (u23 3) | 45 => (u23 4) | 46 => (u23 5) | 47 => (u29 0) | 48 => (u29 1) | 49 => (u33 0) | 50 => (u33 1) | 51 => (u43 0) | 52 => (u43 1) | 53 => (u43 2) | 54 => (u43 3) | 55 => (u47 0) | 56 => (u47 1) | 57 => (u51 0) | 58 => (u51 1) | 59 => (u57 0) | 60 => (u57 1) | 61 => (u57 2) | 62 => (u57 3) | 63 => (u57 4) | _ => 0), u34, u35, u52, u53, u58), rfl, trivial, ⟨by rw [ht]; exact hP9, hD9⟩⟩, hS.F ht⟩) hS.2.2 dX10_init_155
      · skip
        exact absurd c24 (by decide)

set_option maxHeartbeats 1000000 in
set_option maxRecDepth 100000 in
theorem c_X11_init (l : Launch) (dC : Nat → ClassId) (dI : Nat → Nat → Nat) (G : Nat → ClassId) (sz : Nat) (h0 : Nat)  : Met l yX11_init (Cond.code yX11_init cX11_init 1 none :: GT) ({ frames := 1, cells := 16, slots := 1854, locals := 24 } : Room) (PcW [.ref h0] dC dI G [(h0, .inr (11, [.null, .int 0, .int 0, .null, .int 0, .int 0, .int 0, .int 0, .int 0, .int 0, .null, .int 0, .int 0, .int 0, .int 0, .int 0, .int 0, .int 0, .int 0, .null, .null, .null, .null, .null, .null, .int 0, .null, .int 0, .null, .null, .null, .null, .null, .null, .int 0]))] sz) (va_Qv (fun (u : (Nat → Nat) × (Nat → Int32)) => match u with | (v, fl) => ∀ q : Nat, q < 54 → fl q = letL.getD q 0) (fun (u : (Nat → Nat) × (Nat → Int32)) (t : State) => match u with | (v, fl) => va_P (dC, dI) vwCl [(h0, .inr (11, [.ref (v 0), .int 0, .int 0, .ref (v 1), .int 0, .int 0, .int 0, .int 0, .int 0, .int 0, .ref (v 2), .int 0, .int 0, .int 0, .int 0, .int 0, .int 0, .int 0, .int 0, .ref (v 3), .ref (v 4), .ref (v 5), .ref (v 6), .ref (v 7), .ref (v 8), .int 0, .ref (v 9), .int 0, .ref (v 10), .ref (v 11), .ref (v 12), .ref (v 13), .ref (v 14), .ref (v 15), .int 0])), ((v 0), .inl (G 0, 196, .inl (fun _ => 0))), ((v 1), .inl (G 0, 49, .inl (fun _ => 0))), ((v 2), .inl (G 0, 320, .inl (fun _ => 0))), ((v 3), .inl (G 0, 11, .inl (upd (upd (upd (upd (upd (upd (upd (upd (upd (upd (upd (fun _ => 0) 0 0) 1 5) 2 12) 3 18) 4 23) 5 28) 6 34) 7 42) 8 46) 9 50) 10 54))), ((v 4), .inl (G 0, 54, .inl fl)), ((v 5), .inl (G 1, 10, .inr (.inl (fun _ => 0)))), ((v 6), .inl (G 1, 10, .inr (.inl (fun _ => 0)))), ((v 7), .inl (G 1, 770, .inr (.inl (fun _ => 0)))), ((v 8), .inl (G 0, 32, .inl (fun _ => 0))), ((v 9), .inl (G 0, 12, .inl (fun _ => 0))), ((v 10), .inl (G 0, 110, .inl (fun _ => 0))), ((v 11), .inl (G 0, 110, .inl (fun _ => 0))), ((v 12), .inl (G 2, 2, .inl (fun _ => 0))), ((v 13), .inl (G 0, 4, .inl (upd (upd (upd (upd (fun _ => 0) 0 (-4)) 1 (-4)) 2 (-4)) 3 (-4)))), ((v 14), .inl (G 0, 4, .inl (fun _ => 0))), ((v 15), .inl (G 0, 160, .inl (fun _ => 0)))] t.heap ∧ va_D (va_A [(h0, .inr (11, [.null, .int 0, .int 0, .null, .int 0, .int 0, .int 0, .int 0, .int 0, .int 0, .null, .int 0, .int 0, .int 0, .int 0, .int 0, .int 0, .int 0, .int 0, .null, .null, .null, .null, .null, .null, .int 0, .null, .int 0, .null, .null, .null, .null, .null, .null, .int 0]))] sz) [(h0, .inr (11, [.ref (v 0), .int 0, .int 0, .ref (v 1), .int 0, .int 0, .int 0, .int 0, .int 0, .int 0, .ref (v 2), .int 0, .int 0, .int 0, .int 0, .int 0, .int 0, .int 0, .int 0, .ref (v 3), .ref (v 4), .ref (v 5), .ref (v 6), .ref (v 7), .ref (v 8), .int 0, .ref (v 9), .int 0, .ref (v 10), .ref (v 11), .ref (v 12), .ref (v 13), .ref (v 14), .ref (v 15), .int 0])), ((v 0), .inl (G 0, 196, .inl (fun _ => 0))), ((v 1), .inl (G 0, 49, .inl (fun _ => 0))), ((v 2), .inl (G 0, 320, .inl (fun _ => 0))), ((v 3), .inl (G 0, 11, .inl (upd (upd (upd (upd (upd (upd (upd (upd (upd (upd (upd (fun _ => 0) 0 0) 1 5) 2 12) 3 18) 4 23) 5 28) 6 34) 7 42) 8 46) 9 50) 10 54))), ((v 4), .inl (G 0, 54, .inl fl)), ((v 5), .inl (G 1, 10, .inr (.inl (fun _ => 0)))), ((v 6), .inl (G 1, 10, .inr (.inl (fun _ => 0)))), ((v 7), .inl (G 1, 770, .inr (.inl (fun _ => 0)))), ((v 8), .inl (G 0, 32, .inl (fun _ => 0))), ((v 9), .inl (G 0, 12, .inl (fun _ => 0))), ((v 10), .inl (G 0, 110, .inl (fun _ => 0))), ((v 11), .inl (G 0, 110, .inl (fun _ => 0))), ((v 12), .inl (G 2, 2, .inl (fun _ => 0))), ((v 13), .inl (G 0, 4, .inl (upd (upd (upd (upd (fun _ => 0) 0 (-4)) 1 (-4)) 2 (-4)) 3 (-4)))), ((v 14), .inl (G 0, 4, .inl (fun _ => 0))), ((v 15), .inl (G 0, 160, .inl (fun _ => 0)))]) (va_A [(h0, .inr (11, [.null, .int 0, .int 0, .null, .int 0, .int 0, .int 0, .int 0, .int 0, .int 0, .null, .int 0, .int 0, .int 0, .int 0, .int 0, .int 0, .int 0, .int 0, .null, .null, .null, .null, .null, .null, .int 0, .null, .int 0, .null, .null, .null, .null, .null, .null, .int 0]))] sz)) 16 1854 (va_A [(h0, .inr (11, [.null, .int 0, .int 0, .null, .int 0, .int 0, .int 0, .int 0, .int 0, .int 0, .null, .int 0, .int 0, .int 0, .int 0, .int 0, .int 0, .int 0, .int 0, .null, .null, .null, .null, .null, .null, .int 0, .null, .int 0, .null, .null, .null, .null, .null, .null, .int 0]))] sz) := by
  refine Met.ofW (cc := cX11_init) (maxL := 1) (ret := none) (by decide) rfl ?_
  intro p e s m args below meth c s₁ Bd hml hv
  obtain ⟨rfl, hsz, hP, hK, hD0⟩ := hv
  have hx := Bd.exec
  have hb := Bd.bytes
  have hr := Bd.returns
  have hg : ∀ w ∈ GT, w.before ([.ref h0] : List Value).toArray s = true := fun w h => atoms_spec (ws := Cond.code yX11_init cX11_init 1 none :: GT) Bd.pre w (List.mem_cons_of_mem _ h)
  have hown : s.vm.findClass RX11 = some m.cls := findClass_of_methodNamed Bd.named
  have hlocks := Bd.notSynchronized
  have hin : meth.name = "<init>" := (name_of_methodNamed Bd.named Bd.method).1
  subst hsz
  have hD := hD0.self (sz := s.heap.size)
  generalize hAe : va_A [(h0, .inr (11, [.null, .int 0, .int 0, .null, .int 0, .int 0, .int 0, .int 0, .int 0, .int 0, .null, .int 0, .int 0, .int 0, .int 0, .int 0, .int 0, .int 0, .int 0, .null, .null, .null, .null, .null, .null, .int 0, .null, .int 0, .null, .null, .null, .null, .null, .null, .int 0]))] s.heap.size = A at hD ⊢
  have hA : ∀ q : Nat, s.heap.size ≤ q → A q := fun q h => by rw [← hAe]; exact Or.inr h
  have hS : va_S A s.heap s.heap [] := va_S.rf
  have hl := lv_entry ([.ref h0]) (n := 1) (Nat.le_of_ble_eq_true rfl)
  rw [lg_entry_eq]
  generalize (lg_sl ([.ref h0]) ++ List.replicate (1 - (lg_sl ([.ref h0])).length) Slot.unset).toArray = ls at hl ⊢
  have hl : lv_has ls 1 [(0, .ref h0)] := hl
  refine lv_aload_n hx hb dX11_init_0 rfl (lv_at hl 0 rfl) ?_
  refine W.objInit hx hb hown (hg _ wt_877) (hg _ wt_26) (hg _ wt_27) rfl (by rw [hml]; exact hl.1) rfl dX11_init_1 (Nat.le_of_ble_eq_true rfl) (Nat.le_of_ble_eq_true rfl) ?_
  refine W.eq (g2 := F0 m 4 ls []) rfl ?_
  refine lv_aload_n hx hb dX11_init_4 rfl (lv_at hl 0 rfl) ?_
  refine lv_sipush (v := 196) hx hb dX11_init_5 rfl ?_
  refine va_newa (atype := .int) (N' := 196) (a0 := (196, .inl (fun _ => 0))) hx hb (hg _ wt_49) rfl hK.1 hP hD hS hA (fun _ => rfl) (by decide) (by decide) (by decide) (Nat.le_of_ble_eq_true rfl) (Nat.le_of_ble_eq_true rfl) dX11_init_8 (fun q1 cA H hK9 hP hD hS => ?_)
  obtain rfl := uniA hK9 0 rfl
  obtain ⟨hP, hD⟩ := va_rls (ws' := [(h0, .inr (11, [.null, .int 0, .int 0, .null, .int 0, .int 0, .int 0, .int 0, .int 0, .int 0, .null, .int 0, .int 0, .int 0, .int 0, .int 0, .int 0, .int 0, .int 0, .null, .null, .null, .null, .null, .null, .int 0, .null, .int 0, .null, .null, .null, .null, .null, .null, .int 0])), (q1, .inl (G 0, 196, .inl (fun _ => 0)))]) hP hD rfl
  refine W.widen (k := 1) (n := 196) (Nat.le_of_ble_eq_true rfl) (Nat.le_of_ble_eq_true rfl) ?_
  refine va_putF (D := (dC, dI)) (ci := 11) (v := .ref q1) (ty := (.array .int)) (C := RX11) (T := TX11) (N := 35) hx hb hg inG11 tyX11 tyX11_ok nmX11 hown hK.1 hP hD hS 0 rfl rfl 0 (Nat.le_of_ble_eq_true rfl) (hg _ wt_878) (fun _ h9 => h9) rfl hin rfl (by decide +kernel) rfl rfl (Nat.le_of_ble_eq_true rfl) dX11_init_10 (fun H locs hP hD hS => ?_)
  obtain ⟨hP, hD⟩ := va_rls (ws' := [(h0, .inr (11, [.ref q1, .int 0, .int 0, .null, .int 0, .int 0, .int 0, .int 0, .int 0, .int 0, .null, .int 0, .int 0, .int 0, .int 0, .int 0, .int 0, .int 0, .int 0, .null, .null, .null, .null, .null, .null, .int 0, .null, .int 0, .null, .null, .null, .null, .null, .null, .int 0])), (q1, .inl (G 0, 196, .inl (fun _ => 0)))]) hP hD rfl
  refine lv_aload_n hx hb dX11_init_13 rfl (lv_at hl 0 rfl) ?_
  refine lv_bipush (v := 49) hx hb dX11_init_14 rfl ?_
  refine va_newa (atype := .int) (N' := 49) (a0 := (49, .inl (fun _ => 0))) hx hb (hg _ wt_49) rfl hK.1 hP hD hS hA (fun _ => rfl) (by decide) (by decide) (by decide) (Nat.le_of_ble_eq_true rfl) (Nat.le_of_ble_eq_true rfl) dX11_init_16 (fun q2 cA H hK9 hP hD hS => ?_)
  obtain rfl := uniA hK9 0 rfl
  obtain ⟨hP, hD⟩ := va_rls (ws' := [(h0, .inr (11, [.ref q1, .int 0, .int 0, .null, .int 0, .int 0, .int 0, .int 0, .int 0, .int 0, .null, .int 0, .int 0, .int 0, .int 0, .int 0, .int 0, .int 0, .int 0, .null, .null, .null, .null, .null, .null, .int 0, .null, .int 0, .null, .null, .null, .null, .null, .null, .int 0])), (q1, .inl (G 0, 196, .inl (fun _ => 0))), (q2, .inl (G 0, 49, .inl (fun _ => 0)))]) hP hD rfl
  refine W.widen (k := 2) (n := 245) (Nat.le_of_ble_eq_true rfl) (Nat.le_of_ble_eq_true rfl) ?_
  refine va_putF (D := (dC, dI)) (ci := 11) (v := .ref q2) (ty := (.array .int)) (C := RX11) (T := TX11) (N := 35) hx hb hg inG11 tyX11 tyX11_ok nmX11 hown hK.1 hP hD hS 0 rfl rfl 3 (Nat.le_of_ble_eq_true rfl) (hg _ wt_881) (fun _ h9 => h9) rfl hin rfl (by decide +kernel) rfl rfl (Nat.le_of_ble_eq_true rfl) dX11_init_18 (fun H locs hP hD hS => ?_)
  obtain ⟨hP, hD⟩ := va_rls (ws' := [(h0, .inr (11, [.ref q1, .int 0, .int 0, .ref q2, .int 0, .int 0, .int 0, .int 0, .int 0, .int 0, .null, .int 0, .int 0, .int 0, .int 0, .int 0, .int 0, .int 0, .int 0, .null, .null, .null, .null, .null, .null, .int 0, .null, .int 0, .null, .null, .null, .null, .null, .null, .int 0])), (q1, .inl (G 0, 196, .inl (fun _ => 0))), (q2, .inl (G 0, 49, .inl (fun _ => 0)))]) hP hD rfl
  refine lv_aload_n hx hb dX11_init_21 rfl (lv_at hl 0 rfl) ?_
  refine lv_sipush (v := 320) hx hb dX11_init_22 rfl ?_
  refine va_newa (atype := .int) (N' := 320) (a0 := (320, .inl (fun _ => 0))) hx hb (hg _ wt_49) rfl hK.1 hP hD hS hA (fun _ => rfl) (by decide) (by decide) (by decide) (Nat.le_of_ble_eq_true rfl) (Nat.le_of_ble_eq_true rfl) dX11_init_25 (fun q3 cA H hK9 hP hD hS => ?_)
  obtain rfl := uniA hK9 0 rfl
  obtain ⟨hP, hD⟩ := va_rls (ws' := [(h0, .inr (11, [.ref q1, .int 0, .int 0, .ref q2, .int 0, .int 0, .int 0, .int 0, .int 0, .int 0, .null, .int 0, .int 0, .int 0, .int 0, .int 0, .int 0, .int 0, .int 0, .null, .null, .null, .null, .null, .null, .int 0, .null, .int 0, .null, .null, .null, .null, .null, .null, .int 0])), (q1, .inl (G 0, 196, .inl (fun _ => 0))), (q2, .inl (G 0, 49, .inl (fun _ => 0))), (q3, .inl (G 0, 320, .inl (fun _ => 0)))]) hP hD rfl
  refine W.widen (k := 3) (n := 565) (Nat.le_of_ble_eq_true rfl) (Nat.le_of_ble_eq_true rfl) ?_
  refine va_putF (D := (dC, dI)) (ci := 11) (v := .ref q3) (ty := (.array .int)) (C := RX11) (T := TX11) (N := 35) hx hb hg inG11 tyX11 tyX11_ok nmX11 hown hK.1 hP hD hS 0 rfl rfl 10 (Nat.le_of_ble_eq_true rfl) (hg _ wt_888) (fun _ h9 => h9) rfl hin rfl (by decide +kernel) rfl rfl (Nat.le_of_ble_eq_true rfl) dX11_init_27 (fun H locs hP hD hS => ?_)
  obtain ⟨hP, hD⟩ := va_rls (ws' := [(h0, .inr (11, [.ref q1, .int 0, .int 0, .ref q2, .int 0, .int 0, .int 0, .int 0, .int 0, .int 0, .ref q3, .int 0, .int 0, .int 0, .int 0, .int 0, .int 0, .int 0, .int 0, .null, .null, .null, .null, .null, .null, .int 0, .null, .int 0, .null, .null, .null, .null, .null, .null, .int 0])), (q1, .inl (G 0, 196, .inl (fun _ => 0))), (q2, .inl (G 0, 49, .inl (fun _ => 0))), (q3, .inl (G 0, 320, .inl (fun _ => 0)))]) hP hD rfl
  refine lv_aload_n hx hb dX11_init_30 rfl (lv_at hl 0 rfl) ?_
  refine lv_bipush (v := 11) hx hb dX11_init_31 rfl ?_
  refine va_newa (atype := .int) (N' := 11) (a0 := (11, .inl (fun _ => 0))) hx hb (hg _ wt_49) rfl hK.1 hP hD hS hA (fun _ => rfl) (by decide) (by decide) (by decide) (Nat.le_of_ble_eq_true rfl) (Nat.le_of_ble_eq_true rfl) dX11_init_33 (fun q4 cA H hK9 hP hD hS => ?_)
  obtain rfl := uniA hK9 0 rfl
  obtain ⟨hP, hD⟩ := va_rls (ws' := [(h0, .inr (11, [.ref q1, .int 0, .int 0, .ref q2, .int 0, .int 0, .int 0, .int 0, .int 0, .int 0, .ref q3, .int 0, .int 0, .int 0, .int 0, .int 0, .int 0, .int 0, .int 0, .null, .null, .null, .null, .null, .null, .int 0, .null, .int 0, .null, .null, .null, .null, .null, .null, .int 0])), (q1, .inl (G 0, 196, .inl (fun _ => 0))), (q2, .inl (G 0, 49, .inl (fun _ => 0))), (q3, .inl (G 0, 320, .inl (fun _ => 0))), (q4, .inl (G 0, 11, .inl (fun _ => 0)))]) hP hD rfl
  refine W.widen (k := 4) (n := 576) (Nat.le_of_ble_eq_true rfl) (Nat.le_of_ble_eq_true rfl) ?_
  refine lv_dup hx hb dX11_init_35 rfl ?_
  refine lv_iconst (v := 0) hx hb dX11_init_36 rfl ?_
  refine lv_iconst (v := 0) hx hb dX11_init_37 rfl ?_
  refine va_iast hx hb hK.1 hP hD hS 4 0 rfl rfl (vp_in_iff.mpr ⟨by decide, by decide⟩) dX11_init_38 (fun H locs hP hD hS => ?_)
  obtain ⟨hP, hD⟩ := va_rls (ws' := [(h0, .inr (11, [.ref q1, .int 0, .int 0, .ref q2, .int 0, .int 0, .int 0, .int 0, .int 0, .int 0, .ref q3, .int 0, .int 0, .int 0, .int 0, .int 0, .int 0, .int 0, .int 0, .null, .null, .null, .null, .null, .null, .int 0, .null, .int 0, .null, .null, .null, .null, .null, .null, .int 0])), (q1, .inl (G 0, 196, .inl (fun _ => 0))), (q2, .inl (G 0, 49, .inl (fun _ => 0))), (q3, .inl (G 0, 320, .inl (fun _ => 0))), (q4, .inl (G 0, 11, .inl (upd (fun _ => 0) 0 0)))]) hP hD rfl
  refine lv_dup hx hb dX11_init_39 rfl ?_
  refine lv_iconst (v := 1) hx hb dX11_init_40 rfl ?_
  refine lv_iconst (v := 5) hx hb dX11_init_41 rfl ?_
  refine va_iast hx hb hK.1 hP hD hS 4 0 rfl rfl (vp_in_iff.mpr ⟨by decide, by decide⟩) dX11_init_42 (fun H locs hP hD hS => ?_)
  obtain ⟨hP, hD⟩ := va_rls (ws' := [(h0, .inr (11, [.ref q1, .int 0, .int 0, .ref q2, .int 0, .int 0, .int 0, .int 0, .int 0, .int 0, .ref q3, .int 0, .int 0, .int 0, .int 0, .int 0, .int 0, .int 0, .int 0, .null, .null, .null, .null, .null, .null, .int 0, .null, .int 0, .null, .null, .null, .null, .null, .null, .int 0])), (q1, .inl (G 0, 196, .inl (fun _ => 0))), (q2, .inl (G 0, 49, .inl (fun _ => 0))), (q3, .inl (G 0, 320, .inl (fun _ => 0))), (q4, .inl (G 0, 11, .inl (upd (upd (fun _ => 0) 0 0) 1 5)))]) hP hD rfl
  refine lv_dup hx hb dX11_init_43 rfl ?_
  refine lv_iconst (v := 2) hx hb dX11_init_44 rfl ?_
  refine lv_bipush (v := 12) hx hb dX11_init_45 rfl ?_
  refine va_iast hx hb hK.1 hP hD hS 4 0 rfl rfl (vp_in_iff.mpr ⟨by decide, by decide⟩) dX11_init_47 (fun H locs hP hD hS => ?_)
  obtain ⟨hP, hD⟩ := va_rls (ws' := [(h0, .inr (11, [.ref q1, .int 0, .int 0, .ref q2, .int 0, .int 0, .int 0, .int 0, .int 0, .int 0, .ref q3, .int 0, .int 0, .int 0, .int 0, .int 0, .int 0, .int 0, .int 0, .null, .null, .null, .null, .null, .null, .int 0, .null, .int 0, .null, .null, .null, .null, .null, .null, .int 0])), (q1, .inl (G 0, 196, .inl (fun _ => 0))), (q2, .inl (G 0, 49, .inl (fun _ => 0))), (q3, .inl (G 0, 320, .inl (fun _ => 0))), (q4, .inl (G 0, 11, .inl (upd (upd (upd (fun _ => 0) 0 0) 1 5) 2 12)))]) hP hD rfl
  refine lv_dup hx hb dX11_init_48 rfl ?_
  refine lv_iconst (v := 3) hx hb dX11_init_49 rfl ?_
  refine lv_bipush (v := 18) hx hb dX11_init_50 rfl ?_
  refine va_iast hx hb hK.1 hP hD hS 4 0 rfl rfl (vp_in_iff.mpr ⟨by decide, by decide⟩) dX11_init_52 (fun H locs hP hD hS => ?_)
  obtain ⟨hP, hD⟩ := va_rls (ws' := [(h0, .inr (11, [.ref q1, .int 0, .int 0, .ref q2, .int 0, .int 0, .int 0, .int 0, .int 0, .int 0, .ref q3, .int 0, .int 0, .int 0, .int 0, .int 0, .int 0, .int 0, .int 0, .null, .null, .null, .null, .null, .null, .int 0, .null, .int 0, .null, .null, .null, .null, .null, .null, .int 0])), (q1, .inl (G 0, 196, .inl (fun _ => 0))), (q2, .inl (G 0, 49, .inl (fun _ => 0))), (q3, .inl (G 0, 320, .inl (fun _ => 0))), (q4, .inl (G 0, 11, .inl (upd (upd (upd (upd (fun _ => 0) 0 0) 1 5) 2 12) 3 18)))]) hP hD rfl
  refine lv_dup hx hb dX11_init_53 rfl ?_
  refine lv_iconst (v := 4) hx hb dX11_init_54 rfl ?_
  refine lv_bipush (v := 23) hx hb dX11_init_55 rfl ?_
  refine va_iast hx hb hK.1 hP hD hS 4 0 rfl rfl (vp_in_iff.mpr ⟨by decide, by decide⟩) dX11_init_57 (fun H locs hP hD hS => ?_)
  obtain ⟨hP, hD⟩ := va_rls (ws' := [(h0, .inr (11, [.ref q1, .int 0, .int 0, .ref q2, .int 0, .int 0, .int 0, .int 0, .int 0, .int 0, .ref q3, .int 0, .int 0, .int 0, .int 0, .int 0, .int 0, .int 0, .int 0, .null, .null, .null, .null, .null, .null, .int 0, .null, .int 0, .null, .null, .null, .null, .null, .null, .int 0])), (q1, .inl (G 0, 196, .inl (fun _ => 0))), (q2, .inl (G 0, 49, .inl (fun _ => 0))), (q3, .inl (G 0, 320, .inl (fun _ => 0))), (q4, .inl (G 0, 11, .inl (upd (upd (upd (upd (upd (fun _ => 0) 0 0) 1 5) 2 12) 3 18) 4 23)))]) hP hD rfl
  refine lv_dup hx hb dX11_init_58 rfl ?_
  refine lv_iconst (v := 5) hx hb dX11_init_59 rfl ?_
  refine lv_bipush (v := 28) hx hb dX11_init_60 rfl ?_
  refine va_iast hx hb hK.1 hP hD hS 4 0 rfl rfl (vp_in_iff.mpr ⟨by decide, by decide⟩) dX11_init_62 (fun H locs hP hD hS => ?_)
  obtain ⟨hP, hD⟩ := va_rls (ws' := [(h0, .inr (11, [.ref q1, .int 0, .int 0, .ref q2, .int 0, .int 0, .int 0, .int 0, .int 0, .int 0, .ref q3, .int 0, .int 0, .int 0, .int 0, .int 0, .int 0, .int 0, .int 0, .null, .null, .null, .null, .null, .null, .int 0, .null, .int 0, .null, .null, .null, .null, .null, .null, .int 0])), (q1, .inl (G 0, 196, .inl (fun _ => 0))), (q2, .inl (G 0, 49, .inl (fun _ => 0))), (q3, .inl (G 0, 320, .inl (fun _ => 0))), (q4, .inl (G 0, 11, .inl (upd (upd (upd (upd (upd (upd (fun _ => 0) 0 0) 1 5) 2 12) 3 18) 4 23) 5 28)))]) hP hD rfl
  refine lv_dup hx hb dX11_init_63 rfl ?_
  refine lv_bipush (v := 6) hx hb dX11_init_64 rfl ?_
  refine lv_bipush (v := 34) hx hb dX11_init_66 rfl ?_
  refine va_iast hx hb hK.1 hP hD hS 4 0 rfl rfl (vp_in_iff.mpr ⟨by decide, by decide⟩) dX11_init_68 (fun H locs hP hD hS => ?_)
  obtain ⟨hP, hD⟩ := va_rls (ws' := [(h0, .inr (11, [.ref q1, .int 0, .int 0, .ref q2, .int 0, .int 0, .int 0, .int 0, .int 0, .int 0, .ref q3, .int 0, .int 0, .int 0, .int 0, .int 0, .int 0, .int 0, .int 0, .null, .null, .null, .null, .null, .null, .int 0, .null, .int 0, .null, .null, .null, .null, .null, .null, .int 0])), (q1, .inl (G 0, 196, .inl (fun _ => 0))), (q2, .inl (G 0, 49, .inl (fun _ => 0))), (q3, .inl (G 0, 320, .inl (fun _ => 0))), (q4, .inl (G 0, 11, .inl (upd (upd (upd (upd (upd (upd (upd (fun _ => 0) 0 0) 1 5) 2 12) 3 18) 4 23) 5 28) 6 34)))]) hP hD rfl
  refine lv_dup hx hb dX11_init_69 rfl ?_
  refine lv_bipush (v := 7) hx hb dX11_init_70 rfl ?_
  refine lv_bipush (v := 42) hx hb dX11_init_72 rfl ?_
  refine va_iast hx hb hK.1 hP hD hS 4 0 rfl rfl (vp_in_iff.mpr ⟨by decide, by decide⟩) dX11_init_74 (fun H locs hP hD hS => ?_)
  obtain ⟨hP, hD⟩ := va_rls (ws' := [(h0, .inr (11, [.ref q1, .int 0, .int 0, .ref q2, .int 0, .int 0, .int 0, .int 0, .int 0, .int 0, .ref q3, .int 0, .int 0, .int 0, .int 0, .int 0, .int 0, .int 0, .int 0, .null, .null, .null, .null, .null, .null, .int 0, .null, .int 0, .null, .null, .null, .null, .null, .null, .int 0])), (q1, .inl (G 0, 196, .inl (fun _ => 0))), (q2, .inl (G 0, 49, .inl (fun _ => 0))), (q3, .inl (G 0, 320, .inl (fun _ => 0))), (q4, .inl (G 0, 11, .inl (upd (upd (upd (upd (upd (upd (upd (upd (fun _ => 0) 0 0) 1 5) 2 12) 3 18) 4 23) 5 28) 6 34) 7 42)))]) hP hD rfl
  refine lv_dup hx hb dX11_init_75 rfl ?_
  refine lv_bipush (v := 8) hx hb dX11_init_76 rfl ?_
  refine lv_bipush (v := 46) hx hb dX11_init_78 rfl ?_
  refine va_iast hx hb hK.1 hP hD hS 4 0 rfl rfl (vp_in_iff.mpr ⟨by decide, by decide⟩) dX11_init_80 (fun H locs hP hD hS => ?_)
  obtain ⟨hP, hD⟩ := va_rls (ws' := [(h0, .inr (11, [.ref q1, .int 0, .int 0, .ref q2, .int 0, .int 0, .int 0, .int 0, .int 0, .int 0, .ref q3, .int 0, .int 0, .int 0, .int 0, .int 0, .int 0, .int 0, .int 0, .null, .null, .null, .null, .null, .null, .int 0, .null, .int 0, .null, .null, .null, .null, .null, .null, .int 0])), (q1, .inl (G 0, 196, .inl (fun _ => 0))), (q2, .inl (G 0, 49, .inl (fun _ => 0))), (q3, .inl (G 0, 320, .inl (fun _ => 0))), (q4, .inl (G 0, 11, .inl (upd (upd (upd (upd (upd (upd (upd (upd (upd (fun _ => 0) 0 0) 1 5) 2 12) 3 18) 4 23) 5 28) 6 34) 7 42) 8 46)))]) hP hD rfl
  refine lv_dup hx hb dX11_init_81 rfl ?_
  refine lv_bipush (v := 9) hx hb dX11_init_82 rfl ?_
  refine lv_bipush (v := 50) hx hb dX11_init_84 rfl ?_
  refine va_iast hx hb hK.1 hP hD hS 4 0 rfl rfl (vp_in_iff.mpr ⟨by decide, by decide⟩) dX11_init_86 (fun H locs hP hD hS => ?_)
  obtain ⟨hP, hD⟩ := va_rls (ws' := [(h0, .inr (11, [.ref q1, .int 0, .int 0, .ref q2, .int 0, .int 0, .int 0, .int 0, .int 0, .int 0, .ref q3, .int 0, .int 0, .int 0, .int 0, .int 0, .int 0, .int 0, .int 0, .null, .null, .null, .null, .null, .null, .int 0, .null, .int 0, .null, .null, .null, .null, .null, .null, .int 0])), (q1, .inl (G 0, 196, .inl (fun _ => 0))), (q2, .inl (G 0, 49, .inl (fun _ => 0))), (q3, .inl (G 0, 320, .inl (fun _ => 0))), (q4, .inl (G 0, 11, .inl (upd (upd (upd (upd (upd (upd (upd (upd (upd (upd (fun _ => 0) 0 0) 1 5) 2 12) 3 18) 4 23) 5 28) 6 34) 7 42) 8 46) 9 50)))]) hP hD rfl
  refine lv_dup hx hb dX11_init_87 rfl ?_
  refine lv_bipush (v := 10) hx hb dX11_init_88 rfl ?_
  refine lv_bipush (v := 54) hx hb dX11_init_90 rfl ?_
  refine va_iast hx hb hK.1 hP hD hS 4 0 rfl rfl (vp_in_iff.mpr ⟨by decide, by decide⟩) dX11_init_92 (fun H locs hP hD hS => ?_)
  obtain ⟨hP, hD⟩ := va_rls (ws' := [(h0, .inr (11, [.ref q1, .int 0, .int 0, .ref q2, .int 0, .int 0, .int 0, .int 0, .int 0, .int 0, .ref q3, .int 0, .int 0, .int 0, .int 0, .int 0, .int 0, .int 0, .int 0, .null, .null, .null, .null, .null, .null, .int 0, .null, .int 0, .null, .null, .null, .null, .null, .null, .int 0])), (q1, .inl (G 0, 196, .inl (fun _ => 0))), (q2, .inl (G 0, 49, .inl (fun _ => 0))), (q3, .inl (G 0, 320, .inl (fun _ => 0))), (q4, .inl (G 0, 11, .inl (upd (upd (upd (upd (upd (upd (upd (upd (upd (upd (upd (fun _ => 0) 0 0) 1 5) 2 12) 3 18) 4 23) 5 28) 6 34) 7 42) 8 46) 9 50) 10 54)))]) hP hD rfl
  refine va_putF (D := (dC, dI)) (ci := 11) (v := .ref q4) (ty := (.array .int)) (C := RX11) (T := TX11) (N := 35) hx hb hg inG11 tyX11 tyX11_ok nmX11 hown hK.1 hP hD hS 0 rfl rfl 19 (Nat.le_of_ble_eq_true rfl) (hg _ wt_897) (fun _ h9 => h9) rfl hin rfl (by decide +kernel) rfl rfl (Nat.le_of_ble_eq_true rfl) dX11_init_93 (fun H locs hP hD hS => ?_)
  obtain ⟨hP, hD⟩ := va_rls (ws' := [(h0, .inr (11, [.ref q1, .int 0, .int 0, .ref q2, .int 0, .int 0, .int 0, .int 0, .int 0, .int 0, .ref q3, .int 0, .int 0, .int 0, .int 0, .int 0, .int 0, .int 0, .int 0, .ref q4, .null, .null, .null, .null, .null, .int 0, .null, .int 0, .null, .null, .null, .null, .null, .null, .int 0])), (q1, .inl (G 0, 196, .inl (fun _ => 0))), (q2, .inl (G 0, 49, .inl (fun _ => 0))), (q3, .inl (G 0, 320, .inl (fun _ => 0))), (q4, .inl (G 0, 11, .inl (upd (upd (upd (upd (upd (upd (upd (upd (upd (upd (upd (fun _ => 0) 0 0) 1 5) 2 12) 3 18) 4 23) 5 28) 6 34) 7 42) 8 46) 9 50) 10 54)))]) hP hD rfl
  refine lv_aload_n hx hb dX11_init_96 rfl (lv_at hl 0 rfl) ?_
  refine lv_bipush (v := 54) hx hb dX11_init_97 rfl ?_
  refine va_newa (atype := .int) (N' := 54) (a0 := (54, .inl (fun _ => 0))) hx hb (hg _ wt_49) rfl hK.1 hP hD hS hA (fun _ => rfl) (by decide) (by decide) (by decide) (Nat.le_of_ble_eq_true rfl) (Nat.le_of_ble_eq_true rfl) dX11_init_99 (fun q5 cA H hK9 hP hD hS => ?_)
  obtain rfl := uniA hK9 0 rfl
  obtain ⟨hP, hD⟩ := va_rls (ws' := [(h0, .inr (11, [.ref q1, .int 0, .int 0, .ref q2, .int 0, .int 0, .int 0, .int 0, .int 0, .int 0, .ref q3, .int 0, .int 0, .int 0, .int 0, .int 0, .int 0, .int 0, .int 0, .ref q4, .null, .null, .null, .null, .null, .int 0, .null, .int 0, .null, .null, .null, .null, .null, .null, .int 0])), (q1, .inl (G 0, 196, .inl (fun _ => 0))), (q2, .inl (G 0, 49, .inl (fun _ => 0))), (q3, .inl (G 0, 320, .inl (fun _ => 0))), (q4, .inl (G 0, 11, .inl (upd (upd (upd (upd (upd (upd (upd (upd (upd (upd (upd (fun _ => 0) 0 0) 1 5) 2 12) 3 18) 4 23) 5 28) 6 34) 7 42) 8 46) 9 50) 10 54))), (q5, .inl (G 0, 54, .inl (fun _ => 0)))]) hP hD rfl
  refine W.widen (k := 5) (n := 630) (Nat.le_of_ble_eq_true rfl) (Nat.le_of_ble_eq_true rfl) ?_
  refine lv_dup hx hb dX11_init_101 rfl ?_
  refine lv_iconst (v := 0) hx hb dX11_init_102 rfl ?_
  refine lv_bipush (v := 115) hx hb dX11_init_103 rfl ?_
  refine va_iast hx hb hK.1 hP hD hS 5 0 rfl rfl (vp_in_iff.mpr ⟨by decide, by decide⟩) dX11_init_105 (fun H locs hP hD hS => ?_)
  obtain ⟨hP, hD⟩ := va_rls (ws' := [(h0, .inr (11, [.ref q1, .int 0, .int 0, .ref q2, .int 0, .int 0, .int 0, .int 0, .int 0, .int 0, .ref q3, .int 0, .int 0, .int 0, .int 0, .int 0, .int 0, .int 0, .int 0, .ref q4, .null, .null, .null, .null, .null, .int 0, .null, .int 0, .null, .null, .null, .null, .null, .null, .int 0])), (q1, .inl (G 0, 196, .inl (fun _ => 0))), (q2, .inl (G 0, 49, .inl (fun _ => 0))), (q3, .inl (G 0, 320, .inl (fun _ => 0))), (q4, .inl (G 0, 11, .inl (upd (upd (upd (upd (upd (upd (upd (upd (upd (upd (upd (fun _ => 0) 0 0) 1 5) 2 12) 3 18) 4 23) 5 28) 6 34) 7 42) 8 46) 9 50) 10 54))), (q5, .inl (G 0, 54, .inl (upd (fun _ => 0) 0 115)))]) hP hD rfl
  have hlt7 := LTs (g := fun _ => 0) (k := 0) (c := 115) LT0 (by rfl)
  generalize (upd (fun _ => 0) 0 115) = g6 at hP hD hlt7
  refine lv_dup hx hb dX11_init_106 rfl ?_
  refine lv_iconst (v := 1) hx hb dX11_init_107 rfl ?_
  refine lv_bipush (v := 116) hx hb dX11_init_108 rfl ?_
  refine va_iast hx hb hK.1 hP hD hS 5 0 rfl rfl (vp_in_iff.mpr ⟨by decide, by decide⟩) dX11_init_110 (fun H locs hP hD hS => ?_)
  obtain ⟨hP, hD⟩ := va_rls (ws' := [(h0, .inr (11, [.ref q1, .int 0, .int 0, .ref q2, .int 0, .int 0, .int 0, .int 0, .int 0, .int 0, .ref q3, .int 0, .int 0, .int 0, .int 0, .int 0, .int 0, .int 0, .int 0, .ref q4, .null, .null, .null, .null, .null, .int 0, .null, .int 0, .null, .null, .null, .null, .null, .null, .int 0])), (q1, .inl (G 0, 196, .inl (fun _ => 0))), (q2, .inl (G 0, 49, .inl (fun _ => 0))), (q3, .inl (G 0, 320, .inl (fun _ => 0))), (q4, .inl (G 0, 11, .inl (upd (upd (upd (upd (upd (upd (upd (upd (upd (upd (upd (fun _ => 0) 0 0) 1 5) 2 12) 3 18) 4 23) 5 28) 6 34) 7 42) 8 46) 9 50) 10 54))), (q5, .inl (G 0, 54, .inl (upd g6 1 116)))]) hP hD rfl
  have hlt9 := LTs (g := g6) (k := 1) (c := 116) hlt7 (by rfl)
  generalize (upd g6 1 116) = g8 at hP hD hlt9
  refine lv_dup hx hb dX11_init_111 rfl ?_
  refine lv_iconst (v := 2) hx hb dX11_init_112 rfl ?_
  refine lv_bipush (v := 97) hx hb dX11_init_113 rfl ?_
  refine va_iast hx hb hK.1 hP hD hS 5 0 rfl rfl (vp_in_iff.mpr ⟨by decide, by decide⟩) dX11_init_115 (fun H locs hP hD hS => ?_)
  obtain ⟨hP, hD⟩ := va_rls (ws' := [(h0, .inr (11, [.ref q1, .int 0, .int 0, .ref q2, .int 0, .int 0, .int 0, .int 0, .int 0, .int 0, .ref q3, .int 0, .int 0, .int 0, .int 0, .int 0, .int 0, .int 0, .int 0, .ref q4, .null, .null, .null, .null, .null, .int 0, .null, .int 0, .null, .null, .null, .null, .null, .null, .int 0])), (q1, .inl (G 0, 196, .inl (fun _ => 0))), (q2, .inl (G 0, 49, .inl (fun _ => 0))), (q3, .inl (G 0, 320, .inl (fun _ => 0))), (q4, .inl (G 0, 11, .inl (upd (upd (upd (upd (upd (upd (upd (upd (upd (upd (upd (fun _ => 0) 0 0) 1 5) 2 12) 3 18) 4 23) 5 28) 6 34) 7 42) 8 46) 9 50) 10 54))), (q5, .inl (G 0, 54, .inl (upd g8 2 97)))]) hP hD rfl
  have hlt11 := LTs (g := g8) (k := 2) (c := 97) hlt9 (by rfl)
  generalize (upd g8 2 97) = g10 at hP hD hlt11
  refine lv_dup hx hb dX11_init_116 rfl ?_
  refine lv_iconst (v := 3) hx hb dX11_init_117 rfl ?_
  refine lv_bipush (v := 114) hx hb dX11_init_118 rfl ?_
  refine va_iast hx hb hK.1 hP hD hS 5 0 rfl rfl (vp_in_iff.mpr ⟨by decide, by decide⟩) dX11_init_120 (fun H locs hP hD hS => ?_)
  obtain ⟨hP, hD⟩ := va_rls (ws' := [(h0, .inr (11, [.ref q1, .int 0, .int 0, .ref q2, .int 0, .int 0, .int 0, .int 0, .int 0, .int 0, .ref q3, .int 0, .int 0, .int 0, .int 0, .int 0, .int 0, .int 0, .int 0, .ref q4, .null, .null, .null, .null, .null, .int 0, .null, .int 0, .null, .null, .null, .null, .null, .null, .int 0])), (q1, .inl (G 0, 196, .inl (fun _ => 0))), (q2, .inl (G 0, 49, .inl (fun _ => 0))), (q3, .inl (G 0, 320, .inl (fun _ => 0))), (q4, .inl (G 0, 11, .inl (upd (upd (upd (upd (upd (upd (upd (upd (upd (upd (upd (fun _ => 0) 0 0) 1 5) 2 12) 3 18) 4 23) 5 28) 6 34) 7 42) 8 46) 9 50) 10 54))), (q5, .inl (G 0, 54, .inl (upd g10 3 114)))]) hP hD rfl
  have hlt13 := LTs (g := g10) (k := 3) (c := 114) hlt11 (by rfl)
  generalize (upd g10 3 114) = g12 at hP hD hlt13
  refine lv_dup hx hb dX11_init_121 rfl ?_
  refine lv_iconst (v := 4) hx hb dX11_init_122 rfl ?_
  refine lv_bipush (v := 116) hx hb dX11_init_123 rfl ?_
  refine va_iast hx hb hK.1 hP hD hS 5 0 rfl rfl (vp_in_iff.mpr ⟨by decide, by decide⟩) dX11_init_125 (fun H locs hP hD hS => ?_)
  obtain ⟨hP, hD⟩ := va_rls (ws' := [(h0, .inr (11, [.ref q1, .int 0, .int 0, .ref q2, .int 0, .int 0, .int 0, .int 0, .int 0, .int 0, .ref q3, .int 0, .int 0, .int 0, .int 0, .int 0, .int 0, .int 0, .int 0, .ref q4, .null, .null, .null, .null, .null, .int 0, .null, .int 0, .null, .null, .null, .null, .null, .null, .int 0])), (q1, .inl (G 0, 196, .inl (fun _ => 0))), (q2, .inl (G 0, 49, .inl (fun _ => 0))), (q3, .inl (G 0, 320, .inl (fun _ => 0))), (q4, .inl (G 0, 11, .inl (upd (upd (upd (upd (upd (upd (upd (upd (upd (upd (upd (fun _ => 0) 0 0) 1 5) 2 12) 3 18) 4 23) 5 28) 6 34) 7 42) 8 46) 9 50) 10 54))), (q5, .inl (G 0, 54, .inl (upd g12 4 116)))]) hP hD rfl
  have hlt15 := LTs (g := g12) (k := 4) (c := 116) hlt13 (by rfl)
  generalize (upd g12 4 116) = g14 at hP hD hlt15
  refine lv_dup hx hb dX11_init_126 rfl ?_
  refine lv_iconst (v := 5) hx hb dX11_init_127 rfl ?_
  refine lv_bipush (v := 115) hx hb dX11_init_128 rfl ?_
  refine va_iast hx hb hK.1 hP hD hS 5 0 rfl rfl (vp_in_iff.mpr ⟨by decide, by decide⟩) dX11_init_130 (fun H locs hP hD hS => ?_)
  obtain ⟨hP, hD⟩ := va_rls (ws' := [(h0, .inr (11, [.ref q1, .int 0, .int 0, .ref q2, .int 0, .int 0, .int 0, .int 0, .int 0, .int 0, .ref q3, .int 0, .int 0, .int 0, .int 0, .int 0, .int 0, .int 0, .int 0, .ref q4, .null, .null, .null, .null, .null, .int 0, .null, .int 0, .null, .null, .null, .null, .null, .null, .int 0])), (q1, .inl (G 0, 196, .inl (fun _ => 0))), (q2, .inl (G 0, 49, .inl (fun _ => 0))), (q3, .inl (G 0, 320, .inl (fun _ => 0))), (q4, .inl (G 0, 11, .inl (upd (upd (upd (upd (upd (upd (upd (upd (upd (upd (upd (fun _ => 0) 0 0) 1 5) 2 12) 3 18) 4 23) 5 28) 6 34) 7 42) 8 46) 9 50) 10 54))), (q5, .inl (G 0, 54, .inl (upd g14 5 115)))]) hP hD rfl
  have hlt17 := LTs (g := g14) (k := 5) (c := 115) hlt15 (by rfl)
  generalize (upd g14 5 115) = g16 at hP hD hlt17
  refine lv_dup hx hb dX11_init_131 rfl ?_
  refine lv_bipush (v := 6) hx hb dX11_init_132 rfl ?_
  refine lv_bipush (v := 116) hx hb dX11_init_134 rfl ?_
  refine va_iast hx hb hK.1 hP hD hS 5 0 rfl rfl (vp_in_iff.mpr ⟨by decide, by decide⟩) dX11_init_136 (fun H locs hP hD hS => ?_)
  obtain ⟨hP, hD⟩ := va_rls (ws' := [(h0, .inr (11, [.ref q1, .int 0, .int 0, .ref q2, .int 0, .int 0, .int 0, .int 0, .int 0, .int 0, .ref q3, .int 0, .int 0, .int 0, .int 0, .int 0, .int 0, .int 0, .int 0, .ref q4, .null, .null, .null, .null, .null, .int 0, .null, .int 0, .null, .null, .null, .null, .null, .null, .int 0])), (q1, .inl (G 0, 196, .inl (fun _ => 0))), (q2, .inl (G 0, 49, .inl (fun _ => 0))), (q3, .inl (G 0, 320, .inl (fun _ => 0))), (q4, .inl (G 0, 11, .inl (upd (upd (upd (upd (upd (upd (upd (upd (upd (upd (upd (fun _ => 0) 0 0) 1 5) 2 12) 3 18) 4 23) 5 28) 6 34) 7 42) 8 46) 9 50) 10 54))), (q5, .inl (G 0, 54, .inl (upd g16 6 116)))]) hP hD rfl
  have hlt19 := LTs (g := g16) (k := 6) (c := 116) hlt17 (by rfl)
  generalize (upd g16 6 116) = g18 at hP hD hlt19
  refine lv_dup hx hb dX11_init_137 rfl ?_
  refine lv_bipush (v := 7) hx hb dX11_init_138 rfl ?_
  refine lv_bipush (v := 114) hx hb dX11_init_140 rfl ?_
  refine va_iast hx hb hK.1 hP hD hS 5 0 rfl rfl (vp_in_iff.mpr ⟨by decide, by decide⟩) dX11_init_142 (fun H locs hP hD hS => ?_)
  obtain ⟨hP, hD⟩ := va_rls (ws' := [(h0, .inr (11, [.ref q1, .int 0, .int 0, .ref q2, .int 0, .int 0, .int 0, .int 0, .int 0, .int 0, .ref q3, .int 0, .int 0, .int 0, .int 0, .int 0, .int 0, .int 0, .int 0, .ref q4, .null, .null, .null, .null, .null, .int 0, .null, .int 0, .null, .null, .null, .null, .null, .null, .int 0])), (q1, .inl (G 0, 196, .inl (fun _ => 0))), (q2, .inl (G 0, 49, .inl (fun _ => 0))), (q3, .inl (G 0, 320, .inl (fun _ => 0))), (q4, .inl (G 0, 11, .inl (upd (upd (upd (upd (upd (upd (upd (upd (upd (upd (upd (fun _ => 0) 0 0) 1 5) 2 12) 3 18) 4 23) 5 28) 6 34) 7 42) 8 46) 9 50) 10 54))), (q5, .inl (G 0, 54, .inl (upd g18 7 114)))]) hP hD rfl
  have hlt21 := LTs (g := g18) (k := 7) (c := 114) hlt19 (by rfl)
  generalize (upd g18 7 114) = g20 at hP hD hlt21
  refine lv_dup hx hb dX11_init_143 rfl ?_
  refine lv_bipush (v := 8) hx hb dX11_init_144 rfl ?_
  refine lv_bipush (v := 101) hx hb dX11_init_146 rfl ?_
  refine va_iast hx hb hK.1 hP hD hS 5 0 rfl rfl (vp_in_iff.mpr ⟨by decide, by decide⟩) dX11_init_148 (fun H locs hP hD hS => ?_)
  obtain ⟨hP, hD⟩ := va_rls (ws' := [(h0, .inr (11, [.ref q1, .int 0, .int 0, .ref q2, .int 0, .int 0, .int 0, .int 0, .int 0, .int 0, .ref q3, .int 0, .int 0, .int 0, .int 0, .int 0, .int 0, .int 0, .int 0, .ref q4, .null, .null, .null, .null, .null, .int 0, .null, .int 0, .null, .null, .null, .null, .null, .null, .int 0])), (q1, .inl (G 0, 196, .inl (fun _ => 0))), (q2, .inl (G 0, 49, .inl (fun _ => 0))), (q3, .inl (G 0, 320, .inl (fun _ => 0))), (q4, .inl (G 0, 11, .inl (upd (upd (upd (upd (upd (upd (upd (upd (upd (upd (upd (fun _ => 0) 0 0) 1 5) 2 12) 3 18) 4 23) 5 28) 6 34) 7 42) 8 46) 9 50) 10 54))), (q5, .inl (G 0, 54, .inl (upd g20 8 101)))]) hP hD rfl
  have hlt23 := LTs (g := g20) (k := 8) (c := 101) hlt21 (by rfl)
  generalize (upd g20 8 101) = g22 at hP hD hlt23
  refine lv_dup hx hb dX11_init_149 rfl ?_
  refine lv_bipush (v := 9) hx hb dX11_init_150 rfl ?_
  refine lv_bipush (v := 116) hx hb dX11_init_152 rfl ?_
  refine va_iast hx hb hK.1 hP hD hS 5 0 rfl rfl (vp_in_iff.mpr ⟨by decide, by decide⟩) dX11_init_154 (fun H locs hP hD hS => ?_)
  obtain ⟨hP, hD⟩ := va_rls (ws' := [(h0, .inr (11, [.ref q1, .int 0, .int 0, .ref q2, .int 0, .int 0, .int 0, .int 0, .int 0, .int 0, .ref q3, .int 0, .int 0, .int 0, .int 0, .int 0, .int 0, .int 0, .int 0, .ref q4, .null, .null, .null, .null, .null, .int 0, .null, .int 0, .null, .null, .null, .null, .null, .null, .int 0])), (q1, .inl (G 0, 196, .inl (fun _ => 0))), (q2, .inl (G 0, 49, .inl (fun _ => 0))), (q3, .inl (G 0, 320, .inl (fun _ => 0))), (q4, .inl (G 0, 11, .inl (upd (upd (upd (upd (upd (upd (upd (upd (upd (upd (upd (fun _ => 0) 0 0) 1 5) 2 12) 3 18) 4 23) 5 28) 6 34) 7 42) 8 46) 9 50) 10 54))), (q5, .inl (G 0, 54, .inl (upd g22 9 116)))]) hP hD rfl
  have hlt25 := LTs (g := g22) (k := 9) (c := 116) hlt23 (by rfl)
  generalize (upd g22 9 116) = g24 at hP hD hlt25
  refine lv_dup hx hb dX11_init_155 rfl ?_
  refine lv_bipush (v := 10) hx hb dX11_init_156 rfl ?_
  refine lv_bipush (v := 99) hx hb dX11_init_158 rfl ?_
  refine va_iast hx hb hK.1 hP hD hS 5 0 rfl rfl (vp_in_iff.mpr ⟨by decide, by decide⟩) dX11_init_160 (fun H locs hP hD hS => ?_)
  obtain ⟨hP, hD⟩ := va_rls (ws' := [(h0, .inr (11, [.ref q1, .int 0, .int 0, .ref q2, .int 0, .int 0, .int 0, .int 0, .int 0, .int 0, .ref q3, .int 0, .int 0, .int 0, .int 0, .int 0, .int 0, .int 0, .int 0, .ref q4, .null, .null, .null, .null, .null, .int 0, .null, .int 0, .null, .null, .null, .null, .null, .null, .int 0])), (q1, .inl (G 0, 196, .inl (fun _ => 0))), (q2, .inl (G 0, 49, .inl (fun _ => 0))), (q3, .inl (G 0, 320, .inl (fun _ => 0))), (q4, .inl (G 0, 11, .inl (upd (upd (upd (upd (upd (upd (upd (upd (upd (upd (upd (fun _ => 0) 0 0) 1 5) 2 12) 3 18) 4 23) 5 28) 6 34) 7 42) 8 46) 9 50) 10 54))), (q5, .inl (G 0, 54, .inl (upd g24 10 99)))]) hP hD rfl
  have hlt27 := LTs (g := g24) (k := 10) (c := 99) hlt25 (by rfl)
  generalize (upd g24 10 99) = g26 at hP hD hlt27
  refine lv_dup hx hb dX11_init_161 rfl ?_
  refine lv_bipush (v := 11) hx hb dX11_init_162 rfl ?_
  refine lv_bipush (v := 104) hx hb dX11_init_164 rfl ?_
  refine va_iast hx hb hK.1 hP hD hS 5 0 rfl rfl (vp_in_iff.mpr ⟨by decide, by decide⟩) dX11_init_166 (fun H locs hP hD hS => ?_)
  obtain ⟨hP, hD⟩ := va_rls (ws' := [(h0, .inr (11, [.ref q1, .int 0, .int 0, .ref q2, .int 0, .int 0, .int 0, .int 0, .int 0, .int 0, .ref q3, .int 0, .int 0, .int 0, .int 0, .int 0, .int 0, .int 0, .int 0, .ref q4, .null, .null, .null, .null, .null, .int 0, .null, .int 0, .null, .null, .null, .null, .null, .null, .int 0])), (q1, .inl (G 0, 196, .inl (fun _ => 0))), (q2, .inl (G 0, 49, .inl (fun _ => 0))), (q3, .inl (G 0, 320, .inl (fun _ => 0))), (q4, .inl (G 0, 11, .inl (upd (upd (upd (upd (upd (upd (upd (upd (upd (upd (upd (fun _ => 0) 0 0) 1 5) 2 12) 3 18) 4 23) 5 28) 6 34) 7 42) 8 46) 9 50) 10 54))), (q5, .inl (G 0, 54, .inl (upd g26 11 104)))]) hP hD rfl
  have hlt29 := LTs (g := g26) (k := 11) (c := 104) hlt27 (by rfl)
  generalize (upd g26 11 104) = g28 at hP hD hlt29
  refine lv_dup hx hb dX11_init_167 rfl ?_
  refine lv_bipush (v := 12) hx hb dX11_init_168 rfl ?_
  refine lv_bipush (v := 98) hx hb dX11_init_170 rfl ?_
  refine va_iast hx hb hK.1 hP hD hS 5 0 rfl rfl (vp_in_iff.mpr ⟨by decide, by decide⟩) dX11_init_172 (fun H locs hP hD hS => ?_)
  obtain ⟨hP, hD⟩ := va_rls (ws' := [(h0, .inr (11, [.ref q1, .int 0, .int 0, .ref q2, .int 0, .int 0, .int 0, .int 0, .int 0, .int 0, .ref q3, .int 0, .int 0, .int 0, .int 0, .int 0, .int 0, .int 0, .int 0, .ref q4, .null, .null, .null, .null, .null, .int 0, .null, .int 0, .null, .null, .null, .null, .null, .null, .int 0])), (q1, .inl (G 0, 196, .inl (fun _ => 0))), (q2, .inl (G 0, 49, .inl (fun _ => 0))), (q3, .inl (G 0, 320, .inl (fun _ => 0))), (q4, .inl (G 0, 11, .inl (upd (upd (upd (upd (upd (upd (upd (upd (upd (upd (upd (fun _ => 0) 0 0) 1 5) 2 12) 3 18) 4 23) 5 28) 6 34) 7 42) 8 46) 9 50) 10 54))), (q5, .inl (G 0, 54, .inl (upd g28 12 98)))]) hP hD rfl
  have hlt31 := LTs (g := g28) (k := 12) (c := 98) hlt29 (by rfl)
  generalize (upd g28 12 98) = g30 at hP hD hlt31
  refine lv_dup hx hb dX11_init_173 rfl ?_
  refine lv_bipush (v := 13) hx hb dX11_init_174 rfl ?_
  refine lv_bipush (v := 101) hx hb dX11_init_176 rfl ?_
  refine va_iast hx hb hK.1 hP hD hS 5 0 rfl rfl (vp_in_iff.mpr ⟨by decide, by decide⟩) dX11_init_178 (fun H locs hP hD hS => ?_)
  obtain ⟨hP, hD⟩ := va_rls (ws' := [(h0, .inr (11, [.ref q1, .int 0, .int 0, .ref q2, .int 0, .int 0, .int 0, .int 0, .int 0, .int 0, .ref q3, .int 0, .int 0, .int 0, .int 0, .int 0, .int 0, .int 0, .int 0, .ref q4, .null, .null, .null, .null, .null, .int 0, .null, .int 0, .null, .null, .null, .null, .null, .null, .int 0])), (q1, .inl (G 0, 196, .inl (fun _ => 0))), (q2, .inl (G 0, 49, .inl (fun _ => 0))), (q3, .inl (G 0, 320, .inl (fun _ => 0))), (q4, .inl (G 0, 11, .inl (upd (upd (upd (upd (upd (upd (upd (upd (upd (upd (upd (fun _ => 0) 0 0) 1 5) 2 12) 3 18) 4 23) 5 28) 6 34) 7 42) 8 46) 9 50) 10 54))), (q5, .inl (G 0, 54, .inl (upd g30 13 101)))]) hP hD rfl
  have hlt33 := LTs (g := g30) (k := 13) (c := 101) hlt31 (by rfl)
  generalize (upd g30 13 101) = g32 at hP hD hlt33
  refine lv_dup hx hb dX11_init_179 rfl ?_
  refine lv_bipush (v := 14) hx hb dX11_init_180 rfl ?_
  refine lv_bipush (v := 97) hx hb dX11_init_182 rfl ?_
  refine va_iast hx hb hK.1 hP hD hS 5 0 rfl rfl (vp_in_iff.mpr ⟨by decide, by decide⟩) dX11_init_184 (fun H locs hP hD hS => ?_)
  obtain ⟨hP, hD⟩ := va_rls (ws' := [(h0, .inr (11, [.ref q1, .int 0, .int 0, .ref q2, .int 0, .int 0, .int 0, .int 0, .int 0, .int 0, .ref q3, .int 0, .int 0, .int 0, .int 0, .int 0, .int 0, .int 0, .int 0, .ref q4, .null, .null, .null, .null, .null, .int 0, .null, .int 0, .null, .null, .null, .null, .null, .null, .int 0])), (q1, .inl (G 0, 196, .inl (fun _ => 0))), (q2, .inl (G 0, 49, .inl (fun _ => 0))), (q3, .inl (G 0, 320, .inl (fun _ => 0))), (q4, .inl (G 0, 11, .inl (upd (upd (upd (upd (upd (upd (upd (upd (upd (upd (upd (fun _ => 0) 0 0) 1 5) 2 12) 3 18) 4 23) 5 28) 6 34) 7 42) 8 46) 9 50) 10 54))), (q5, .inl (G 0, 54, .inl (upd g32 14 97)))]) hP hD rfl
  have hlt35 := LTs (g := g32) (k := 14) (c := 97) hlt33 (by rfl)
  generalize (upd g32 14 97) = g34 at hP hD hlt35
  refine lv_dup hx hb dX11_init_185 rfl ?_
  refine lv_bipush (v := 15) hx hb dX11_init_186 rfl ?_
  refine lv_bipush (v := 114) hx hb dX11_init_188 rfl ?_
  refine va_iast hx hb hK.1 hP hD hS 5 0 rfl rfl (vp_in_iff.mpr ⟨by decide, by decide⟩) dX11_init_190 (fun H locs hP hD hS => ?_)
  obtain ⟨hP, hD⟩ := va_rls (ws' := [(h0, .inr (11, [.ref q1, .int 0, .int 0, .ref q2, .int 0, .int 0, .int 0, .int 0, .int 0, .int 0, .ref q3, .int 0, .int 0, .int 0, .int 0, .int 0, .int 0, .int 0, .int 0, .ref q4, .null, .null, .null, .null, .null, .int 0, .null, .int 0, .null, .null, .null, .null, .null, .null, .int 0])), (q1, .inl (G 0, 196, .inl (fun _ => 0))), (q2, .inl (G 0, 49, .inl (fun _ => 0))), (q3, .inl (G 0, 320, .inl (fun _ => 0))), (q4, .inl (G 0, 11, .inl (upd (upd (upd (upd (upd (upd (upd (upd (upd (upd (upd (fun _ => 0) 0 0) 1 5) 2 12) 3 18) 4 23) 5 28) 6 34) 7 42) 8 46) 9 50) 10 54))), (q5, .inl (G 0, 54, .inl (upd g34 15 114)))]) hP hD rfl
  have hlt37 := LTs (g := g34) (k := 15) (c := 114) hlt35 (by rfl)
  generalize (upd g34 15 114) = g36 at hP hD hlt37
  refine lv_dup hx hb dX11_init_191 rfl ?_
  refine lv_bipush (v := 16) hx hb dX11_init_192 rfl ?_
  refine lv_bipush (v := 101) hx hb dX11_init_194 rfl ?_
  refine va_iast hx hb hK.1 hP hD hS 5 0 rfl rfl (vp_in_iff.mpr ⟨by decide, by decide⟩) dX11_init_196 (fun H locs hP hD hS => ?_)
  obtain ⟨hP, hD⟩ := va_rls (ws' := [(h0, .inr (11, [.ref q1, .int 0, .int 0, .ref q2, .int 0, .int 0, .int 0, .int 0, .int 0, .int 0, .ref q3, .int 0, .int 0, .int 0, .int 0, .int 0, .int 0, .int 0, .int 0, .ref q4, .null, .null, .null, .null, .null, .int 0, .null, .int 0, .null, .null, .null, .null, .null, .null, .int 0])), (q1, .inl (G 0, 196, .inl (fun _ => 0))), (q2, .inl (G 0, 49, .inl (fun _ => 0))), (q3, .inl (G 0, 320, .inl (fun _ => 0))), (q4, .inl (G 0, 11, .inl (upd (upd (upd (upd (upd (upd (upd (upd (upd (upd (upd (fun _ => 0) 0 0) 1 5) 2 12) 3 18) 4 23) 5 28) 6 34) 7 42) 8 46) 9 50) 10 54))), (q5, .inl (G 0, 54, .inl (upd g36 16 101)))]) hP hD rfl
  have hlt39 := LTs (g := g36) (k := 16) (c := 101) hlt37 (by rfl)
  generalize (upd g36 16 101) = g38 at hP hD hlt39
  refine lv_dup hx hb dX11_init_197 rfl ?_
  refine lv_bipush (v := 17) hx hb dX11_init_198 rfl ?_
  refine lv_bipush (v := 114) hx hb dX11_init_200 rfl ?_
  refine va_iast hx hb hK.1 hP hD hS 5 0 rfl rfl (vp_in_iff.mpr ⟨by decide, by decide⟩) dX11_init_202 (fun H locs hP hD hS => ?_)
  obtain ⟨hP, hD⟩ := va_rls (ws' := [(h0, .inr (11, [.ref q1, .int 0, .int 0, .ref q2, .int 0, .int 0, .int 0, .int 0, .int 0, .int 0, .ref q3, .int 0, .int 0, .int 0, .int 0, .int 0, .int 0, .int 0, .int 0, .ref q4, .null, .null, .null, .null, .null, .int 0, .null, .int 0, .null, .null, .null, .null, .null, .null, .int 0])), (q1, .inl (G 0, 196, .inl (fun _ => 0))), (q2, .inl (G 0, 49, .inl (fun _ => 0))), (q3, .inl (G 0, 320, .inl (fun _ => 0))), (q4, .inl (G 0, 11, .inl (upd (upd (upd (upd (upd (upd (upd (upd (upd (upd (upd (fun _ => 0) 0 0) 1 5) 2 12) 3 18) 4 23) 5 28) 6 34) 7 42) 8 46) 9 50) 10 54))), (q5, .inl (G 0, 54, .inl (upd g38 17 114)))]) hP hD rfl
  have hlt41 := LTs (g := g38) (k := 17) (c := 114) hlt39 (by rfl)
  generalize (upd g38 17 114) = g40 at hP hD hlt41
  refine lv_dup hx hb dX11_init_203 rfl ?_
  refine lv_bipush (v := 18) hx hb dX11_init_204 rfl ?_
  refine lv_bipush (v := 99) hx hb dX11_init_206 rfl ?_
  refine va_iast hx hb hK.1 hP hD hS 5 0 rfl rfl (vp_in_iff.mpr ⟨by decide, by decide⟩) dX11_init_208 (fun H locs hP hD hS => ?_)
  obtain ⟨hP, hD⟩ := va_rls (ws' := [(h0, .inr (11, [.ref q1, .int 0, .int 0, .ref q2, .int 0, .int 0, .int 0, .int 0, .int 0, .int 0, .ref q3, .int 0, .int 0, .int 0, .int 0, .int 0, .int 0, .int 0, .int 0, .ref q4, .null, .null, .null, .null, .null, .int 0, .null, .int 0, .null, .null, .null, .null, .null, .null, .int 0])), (q1, .inl (G 0, 196, .inl (fun _ => 0))), (q2, .inl (G 0, 49, .inl (fun _ => 0))), (q3, .inl (G 0, 320, .inl (fun _ => 0))), (q4, .inl (G 0, 11, .inl (upd (upd (upd (upd (upd (upd (upd (upd (upd (upd (upd (fun _ => 0) 0 0) 1 5) 2 12) 3 18) 4 23) 5 28) 6 34) 7 42) 8 46) 9 50) 10 54))), (q5, .inl (G 0, 54, .inl (upd g40 18 99)))]) hP hD rfl
  have hlt43 := LTs (g := g40) (k := 18) (c := 99) hlt41 (by rfl)
  generalize (upd g40 18 99) = g42 at hP hD hlt43
  refine lv_dup hx hb dX11_init_209 rfl ?_
  refine lv_bipush (v := 19) hx hb dX11_init_210 rfl ?_
  refine lv_bipush (v := 97) hx hb dX11_init_212 rfl ?_
  refine va_iast hx hb hK.1 hP hD hS 5 0 rfl rfl (vp_in_iff.mpr ⟨by decide, by decide⟩) dX11_init_214 (fun H locs hP hD hS => ?_)
  obtain ⟨hP, hD⟩ := va_rls (ws' := [(h0, .inr (11, [.ref q1, .int 0, .int 0, .ref q2, .int 0, .int 0, .int 0, .int 0, .int 0, .int 0, .ref q3, .int 0, .int 0, .int 0, .int 0, .int 0, .int 0, .int 0, .int 0, .ref q4, .null, .null, .null, .null, .null, .int 0, .null, .int 0, .null, .null, .null, .null, .null, .null, .int 0])), (q1, .inl (G 0, 196, .inl (fun _ => 0))), (q2, .inl (G 0, 49, .inl (fun _ => 0))), (q3, .inl (G 0, 320, .inl (fun _ => 0))), (q4, .inl (G 0, 11, .inl (upd (upd (upd (upd (upd (upd (upd (upd (upd (upd (upd (fun _ => 0) 0 0) 1 5) 2 12) 3 18) 4 23) 5 28) 6 34) 7 42) 8 46) 9 50) 10 54))), (q5, .inl (G 0, 54, .inl (upd g42 19 97)))]) hP hD rfl
  have hlt45 := LTs (g := g42) (k := 19) (c := 97) hlt43 (by rfl)
  generalize (upd g42 19 97) = g44 at hP hD hlt45
  refine lv_dup hx hb dX11_init_215 rfl ?_
  refine lv_bipush (v := 20) hx hb dX11_init_216 rfl ?_
  refine lv_bipush (v := 114) hx hb dX11_init_218 rfl ?_
  refine va_iast hx hb hK.1 hP hD hS 5 0 rfl rfl (vp_in_iff.mpr ⟨by decide, by decide⟩) dX11_init_220 (fun H locs hP hD hS => ?_)
  obtain ⟨hP, hD⟩ := va_rls (ws' := [(h0, .inr (11, [.ref q1, .int 0, .int 0, .ref q2, .int 0, .int 0, .int 0, .int 0, .int 0, .int 0, .ref q3, .int 0, .int 0, .int 0, .int 0, .int 0, .int 0, .int 0, .int 0, .ref q4, .null, .null, .null, .null, .null, .int 0, .null, .int 0, .null, .null, .null, .null, .null, .null, .int 0])), (q1, .inl (G 0, 196, .inl (fun _ => 0))), (q2, .inl (G 0, 49, .inl (fun _ => 0))), (q3, .inl (G 0, 320, .inl (fun _ => 0))), (q4, .inl (G 0, 11, .inl (upd (upd (upd (upd (upd (upd (upd (upd (upd (upd (upd (fun _ => 0) 0 0) 1 5) 2 12) 3 18) 4 23) 5 28) 6 34) 7 42) 8 46) 9 50) 10 54))), (q5, .inl (G 0, 54, .inl (upd g44 20 114)))]) hP hD rfl
  have hlt47 := LTs (g := g44) (k := 20) (c := 114) hlt45 (by rfl)
  generalize (upd g44 20 114) = g46 at hP hD hlt47
  refine lv_dup hx hb dX11_init_221 rfl ?_
  refine lv_bipush (v := 21) hx hb dX11_init_222 rfl ?_
  refine lv_bipush (v := 114) hx hb dX11_init_224 rfl ?_
  refine va_iast hx hb hK.1 hP hD hS 5 0 rfl rfl (vp_in_iff.mpr ⟨by decide, by decide⟩) dX11_init_226 (fun H locs hP hD hS => ?_)
  obtain ⟨hP, hD⟩ := va_rls (ws' := [(h0, .inr (11, [.ref q1, .int 0, .int 0, .ref q2, .int 0, .int 0, .int 0, .int 0, .int 0, .int 0, .ref q3, .int 0, .int 0, .int 0, .int 0, .int 0, .int 0, .int 0, .int 0, .ref q4, .null, .null, .null, .null, .null, .int 0, .null, .int 0, .null, .null, .null, .null, .null, .null, .int 0])), (q1, .inl (G 0, 196, .inl (fun _ => 0))), (q2, .inl (G 0, 49, .inl (fun _ => 0))), (q3, .inl (G 0, 320, .inl (fun _ => 0))), (q4, .inl (G 0, 11, .inl (upd (upd (upd (upd (upd (upd (upd (upd (upd (upd (upd (fun _ => 0) 0 0) 1 5) 2 12) 3 18) 4 23) 5 28) 6 34) 7 42) 8 46) 9 50) 10 54))), (q5, .inl (G 0, 54, .inl (upd g46 21 114)))]) hP hD rfl
  have hlt49 := LTs (g := g46) (k := 21) (c := 114) hlt47 (by rfl)
  generalize (upd g46 21 114) = g48 at hP hD hlt49
  refine lv_dup hx hb dX11_init_227 rfl ?_
  refine lv_bipush (v := 22) hx hb dX11_init_228 rfl ?_
  refine lv_bipush (v := 121) hx hb dX11_init_230 rfl ?_
  refine va_iast hx hb hK.1 hP hD hS 5 0 rfl rfl (vp_in_iff.mpr ⟨by decide, by decide⟩) dX11_init_232 (fun H locs hP hD hS => ?_)
  obtain ⟨hP, hD⟩ := va_rls (ws' := [(h0, .inr (11, [.ref q1, .int 0, .int 0, .ref q2, .int 0, .int 0, .int 0, .int 0, .int 0, .int 0, .ref q3, .int 0, .int 0, .int 0, .int 0, .int 0, .int 0, .int 0, .int 0, .ref q4, .null, .null, .null, .null, .null, .int 0, .null, .int 0, .null, .null, .null, .null, .null, .null, .int 0])), (q1, .inl (G 0, 196, .inl (fun _ => 0))), (q2, .inl (G 0, 49, .inl (fun _ => 0))), (q3, .inl (G 0, 320, .inl (fun _ => 0))), (q4, .inl (G 0, 11, .inl (upd (upd (upd (upd (upd (upd (upd (upd (upd (upd (upd (fun _ => 0) 0 0) 1 5) 2 12) 3 18) 4 23) 5 28) 6 34) 7 42) 8 46) 9 50) 10 54))), (q5, .inl (G 0, 54, .inl (upd g48 22 121)))]) hP hD rfl
  have hlt51 := LTs (g := g48) (k := 22) (c := 121) hlt49 (by rfl)
  generalize (upd g48 22 121) = g50 at hP hD hlt51
  refine lv_dup hx hb dX11_init_233 rfl ?_
  refine lv_bipush (v := 23) hx hb dX11_init_234 rfl ?_
  refine lv_bipush (v := 112) hx hb dX11_init_236 rfl ?_
  refine va_iast hx hb hK.1 hP hD hS 5 0 rfl rfl (vp_in_iff.mpr ⟨by decide, by decide⟩) dX11_init_238 (fun H locs hP hD hS => ?_)
  obtain ⟨hP, hD⟩ := va_rls (ws' := [(h0, .inr (11, [.ref q1, .int 0, .int 0, .ref q2, .int 0, .int 0, .int 0, .int 0, .int 0, .int 0, .ref q3, .int 0, .int 0, .int 0, .int 0, .int 0, .int 0, .int 0, .int 0, .ref q4, .null, .null, .null, .null, .null, .int 0, .null, .int 0, .null, .null, .null, .null, .null, .null, .int 0])), (q1, .inl (G 0, 196, .inl (fun _ => 0))), (q2, .inl (G 0, 49, .inl (fun _ => 0))), (q3, .inl (G 0, 320, .inl (fun _ => 0))), (q4, .inl (G 0, 11, .inl (upd (upd (upd (upd (upd (upd (upd (upd (upd (upd (upd (fun _ => 0) 0 0) 1 5) 2 12) 3 18) 4 23) 5 28) 6 34) 7 42) 8 46) 9 50) 10 54))), (q5, .inl (G 0, 54, .inl (upd g50 23 112)))]) hP hD rfl
  have hlt53 := LTs (g := g50) (k := 23) (c := 112) hlt51 (by rfl)
  generalize (upd g50 23 112) = g52 at hP hD hlt53
  refine lv_dup hx hb dX11_init_239 rfl ?_
  refine lv_bipush (v := 24) hx hb dX11_init_240 rfl ?_
  refine lv_bipush (v := 108) hx hb dX11_init_242 rfl ?_
  refine va_iast hx hb hK.1 hP hD hS 5 0 rfl rfl (vp_in_iff.mpr ⟨by decide, by decide⟩) dX11_init_244 (fun H locs hP hD hS => ?_)
  obtain ⟨hP, hD⟩ := va_rls (ws' := [(h0, .inr (11, [.ref q1, .int 0, .int 0, .ref q2, .int 0, .int 0, .int 0, .int 0, .int 0, .int 0, .ref q3, .int 0, .int 0, .int 0, .int 0, .int 0, .int 0, .int 0, .int 0, .ref q4, .null, .null, .null, .null, .null, .int 0, .null, .int 0, .null, .null, .null, .null, .null, .null, .int 0])), (q1, .inl (G 0, 196, .inl (fun _ => 0))), (q2, .inl (G 0, 49, .inl (fun _ => 0))), (q3, .inl (G 0, 320, .inl (fun _ => 0))), (q4, .inl (G 0, 11, .inl (upd (upd (upd (upd (upd (upd (upd (upd (upd (upd (upd (fun _ => 0) 0 0) 1 5) 2 12) 3 18) 4 23) 5 28) 6 34) 7 42) 8 46) 9 50) 10 54))), (q5, .inl (G 0, 54, .inl (upd g52 24 108)))]) hP hD rfl
  have hlt55 := LTs (g := g52) (k := 24) (c := 108) hlt53 (by rfl)
  generalize (upd g52 24 108) = g54 at hP hD hlt55
  refine lv_dup hx hb dX11_init_245 rfl ?_
  refine lv_bipush (v := 25) hx hb dX11_init_246 rfl ?_
  refine lv_bipush (v := 97) hx hb dX11_init_248 rfl ?_
  refine va_iast hx hb hK.1 hP hD hS 5 0 rfl rfl (vp_in_iff.mpr ⟨by decide, by decide⟩) dX11_init_250 (fun H locs hP hD hS => ?_)
  obtain ⟨hP, hD⟩ := va_rls (ws' := [(h0, .inr (11, [.ref q1, .int 0, .int 0, .ref q2, .int 0, .int 0, .int 0, .int 0, .int 0, .int 0, .ref q3, .int 0, .int 0, .int 0, .int 0, .int 0, .int 0, .int 0, .int 0, .ref q4, .null, .null, .null, .null, .null, .int 0, .null, .int 0, .null, .null, .null, .null, .null, .null, .int 0])), (q1, .inl (G 0, 196, .inl (fun _ => 0))), (q2, .inl (G 0, 49, .inl (fun _ => 0))), (q3, .inl (G 0, 320, .inl (fun _ => 0))), (q4, .inl (G 0, 11, .inl (upd (upd (upd (upd (upd (upd (upd (upd (upd (upd (upd (fun _ => 0) 0 0) 1 5) 2 12) 3 18) 4 23) 5 28) 6 34) 7 42) 8 46) 9 50) 10 54))), (q5, .inl (G 0, 54, .inl (upd g54 25 97)))]) hP hD rfl
  have hlt57 := LTs (g := g54) (k := 25) (c := 97) hlt55 (by rfl)
  generalize (upd g54 25 97) = g56 at hP hD hlt57
  refine lv_dup hx hb dX11_init_251 rfl ?_
  refine lv_bipush (v := 26) hx hb dX11_init_252 rfl ?_
  refine lv_bipush (v := 105) hx hb dX11_init_254 rfl ?_
  refine va_iast hx hb hK.1 hP hD hS 5 0 rfl rfl (vp_in_iff.mpr ⟨by decide, by decide⟩) dX11_init_256 (fun H locs hP hD hS => ?_)
  obtain ⟨hP, hD⟩ := va_rls (ws' := [(h0, .inr (11, [.ref q1, .int 0, .int 0, .ref q2, .int 0, .int 0, .int 0, .int 0, .int 0, .int 0, .ref q3, .int 0, .int 0, .int 0, .int 0, .int 0, .int 0, .int 0, .int 0, .ref q4, .null, .null, .null, .null, .null, .int 0, .null, .int 0, .null, .null, .null, .null, .null, .null, .int 0])), (q1, .inl (G 0, 196, .inl (fun _ => 0))), (q2, .inl (G 0, 49, .inl (fun _ => 0))), (q3, .inl (G 0, 320, .inl (fun _ => 0))), (q4, .inl (G 0, 11, .inl (upd (upd (upd (upd (upd (upd (upd (upd (upd (upd (upd (fun _ => 0) 0 0) 1 5) 2 12) 3 18) 4 23) 5 28) 6 34) 7 42) 8 46) 9 50) 10 54))), (q5, .inl (G 0, 54, .inl (upd g56 26 105)))]) hP hD rfl
  have hlt59 := LTs (g := g56) (k := 26) (c := 105) hlt57 (by rfl)
  generalize (upd g56 26 105) = g58 at hP hD hlt59
  refine lv_dup hx hb dX11_init_257 rfl ?_
  refine lv_bipush (v := 27) hx hb dX11_init_258 rfl ?_
  refine lv_bipush (v := 110) hx hb dX11_init_260 rfl ?_
  refine va_iast hx hb hK.1 hP hD hS 5 0 rfl rfl (vp_in_iff.mpr ⟨by decide, by decide⟩) dX11_init_262 (fun H locs hP hD hS => ?_)
  obtain ⟨hP, hD⟩ := va_rls (ws' := [(h0, .inr (11, [.ref q1, .int 0, .int 0, .ref q2, .int 0, .int 0, .int 0, .int 0, .int 0, .int 0, .ref q3, .int 0, .int 0, .int 0, .int 0, .int 0, .int 0, .int 0, .int 0, .ref q4, .null, .null, .null, .null, .null, .int 0, .null, .int 0, .null, .null, .null, .null, .null, .null, .int 0])), (q1, .inl (G 0, 196, .inl (fun _ => 0))), (q2, .inl (G 0, 49, .inl (fun _ => 0))), (q3, .inl (G 0, 320, .inl (fun _ => 0))), (q4, .inl (G 0, 11, .inl (upd (upd (upd (upd (upd (upd (upd (upd (upd (upd (upd (fun _ => 0) 0 0) 1 5) 2 12) 3 18) 4 23) 5 28) 6 34) 7 42) 8 46) 9 50) 10 54))), (q5, .inl (G 0, 54, .inl (upd g58 27 110)))]) hP hD rfl
  have hlt61 := LTs (g := g58) (k := 27) (c := 110) hlt59 (by rfl)
  generalize (upd g58 27 110) = g60 at hP hD hlt61
  refine lv_dup hx hb dX11_init_263 rfl ?_
  refine lv_bipush (v := 28) hx hb dX11_init_264 rfl ?_
  refine lv_bipush (v := 104) hx hb dX11_init_266 rfl ?_
  refine va_iast hx hb hK.1 hP hD hS 5 0 rfl rfl (vp_in_iff.mpr ⟨by decide, by decide⟩) dX11_init_268 (fun H locs hP hD hS => ?_)
  obtain ⟨hP, hD⟩ := va_rls (ws' := [(h0, .inr (11, [.ref q1, .int 0, .int 0, .ref q2, .int 0, .int 0, .int 0, .int 0, .int 0, .int 0, .ref q3, .int 0, .int 0, .int 0, .int 0, .int 0, .int 0, .int 0, .int 0, .ref q4, .null, .null, .null, .null, .null, .int 0, .null, .int 0, .null, .null, .null, .null, .null, .null, .int 0])), (q1, .inl (G 0, 196, .inl (fun _ => 0))), (q2, .inl (G 0, 49, .inl (fun _ => 0))), (q3, .inl (G 0, 320, .inl (fun _ => 0))), (q4, .inl (G 0, 11, .inl (upd (upd (upd (upd (upd (upd (upd (upd (upd (upd (upd (fun _ => 0) 0 0) 1 5) 2 12) 3 18) 4 23) 5 28) 6 34) 7 42) 8 46) 9 50) 10 54))), (q5, .inl (G 0, 54, .inl (upd g60 28 104)))]) hP hD rfl
  have hlt63 := LTs (g := g60) (k := 28) (c := 104) hlt61 (by rfl)
  generalize (upd g60 28 104) = g62 at hP hD hlt63
  refine lv_dup hx hb dX11_init_269 rfl ?_
  refine lv_bipush (v := 29) hx hb dX11_init_270 rfl ?_
  refine lv_bipush (v := 117) hx hb dX11_init_272 rfl ?_
  refine va_iast hx hb hK.1 hP hD hS 5 0 rfl rfl (vp_in_iff.mpr ⟨by decide, by decide⟩) dX11_init_274 (fun H locs hP hD hS => ?_)
  obtain ⟨hP, hD⟩ := va_rls (ws' := [(h0, .inr (11, [.ref q1, .int 0, .int 0, .ref q2, .int 0, .int 0, .int 0, .int 0, .int 0, .int 0, .ref q3, .int 0, .int 0, .int 0, .int 0, .int 0, .int 0, .int 0, .int 0, .ref q4, .null, .null, .null, .null, .null, .int 0, .null, .int 0, .null, .null, .null, .null, .null, .null, .int 0])), (q1, .inl (G 0, 196, .inl (fun _ => 0))), (q2, .inl (G 0, 49, .inl (fun _ => 0))), (q3, .inl (G 0, 320, .inl (fun _ => 0))), (q4, .inl (G 0, 11, .inl (upd (upd (upd (upd (upd (upd (upd (upd (upd (upd (upd (fun _ => 0) 0 0) 1 5) 2 12) 3 18) 4 23) 5 28) 6 34) 7 42) 8 46) 9 50) 10 54))), (q5, .inl (G 0, 54, .inl (upd g62 29 117)))]) hP hD rfl
  have hlt65 := LTs (g := g62) (k := 29) (c := 117) hlt63 (by rfl)
  generalize (upd g62 29 117) = g64 at hP hD hlt65
  refine lv_dup hx hb dX11_init_275 rfl ?_
  refine lv_bipush (v := 30) hx hb dX11_init_276 rfl ?_
  refine lv_bipush (v := 109) hx hb dX11_init_278 rfl ?_
  refine va_iast hx hb hK.1 hP hD hS 5 0 rfl rfl (vp_in_iff.mpr ⟨by decide, by decide⟩) dX11_init_280 (fun H locs hP hD hS => ?_)
  obtain ⟨hP, hD⟩ := va_rls (ws' := [(h0, .inr (11, [.ref q1, .int 0, .int 0, .ref q2, .int 0, .int 0, .int 0, .int 0, .int 0, .int 0, .ref q3, .int 0, .int 0, .int 0, .int 0, .int 0, .int 0, .int 0, .int 0, .ref q4, .null, .null, .null, .null, .null, .int 0, .null, .int 0, .null, .null, .null, .null, .null, .null, .int 0])), (q1, .inl (G 0, 196, .inl (fun _ => 0))), (q2, .inl (G 0, 49, .inl (fun _ => 0))), (q3, .inl (G 0, 320, .inl (fun _ => 0))), (q4, .inl (G 0, 11, .inl (upd (upd (upd (upd (upd (upd (upd (upd (upd (upd (upd (fun _ => 0) 0 0) 1 5) 2 12) 3 18) 4 23) 5 28) 6 34) 7 42) 8 46) 9 50) 10 54))), (q5, .inl (G 0, 54, .inl (upd g64 30 109)))]) hP hD rfl
  have hlt67 := LTs (g := g64) (k := 30) (c := 109) hlt65 (by rfl)
  generalize (upd g64 30 109) = g66 at hP hD hlt67
  refine lv_dup hx hb dX11_init_281 rfl ?_
  refine lv_bipush (v := 31) hx hb dX11_init_282 rfl ?_
  refine lv_bipush (v := 109) hx hb dX11_init_284 rfl ?_
  refine va_iast hx hb hK.1 hP hD hS 5 0 rfl rfl (vp_in_iff.mpr ⟨by decide, by decide⟩) dX11_init_286 (fun H locs hP hD hS => ?_)
  obtain ⟨hP, hD⟩ := va_rls (ws' := [(h0, .inr (11, [.ref q1, .int 0, .int 0, .ref q2, .int 0, .int 0, .int 0, .int 0, .int 0, .int 0, .ref q3, .int 0, .int 0, .int 0, .int 0, .int 0, .int 0, .int 0, .int 0, .ref q4, .null, .null, .null, .null, .null, .int 0, .null, .int 0, .null, .null, .null, .null, .null, .null, .int 0])), (q1, .inl (G 0, 196, .inl (fun _ => 0))), (q2, .inl (G 0, 49, .inl (fun _ => 0))), (q3, .inl (G 0, 320, .inl (fun _ => 0))), (q4, .inl (G 0, 11, .inl (upd (upd (upd (upd (upd (upd (upd (upd (upd (upd (upd (fun _ => 0) 0 0) 1 5) 2 12) 3 18) 4 23) 5 28) 6 34) 7 42) 8 46) 9 50) 10 54))), (q5, .inl (G 0, 54, .inl (upd g66 31 109)))]) hP hD rfl
  have hlt69 := LTs (g := g66) (k := 31) (c := 109) hlt67 (by rfl)
  generalize (upd g66 31 109) = g68 at hP hD hlt69
  refine lv_dup hx hb dX11_init_287 rfl ?_
  refine lv_bipush (v := 32) hx hb dX11_init_288 rfl ?_
  refine lv_bipush (v := 101) hx hb dX11_init_290 rfl ?_
  refine va_iast hx hb hK.1 hP hD hS 5 0 rfl rfl (vp_in_iff.mpr ⟨by decide, by decide⟩) dX11_init_292 (fun H locs hP hD hS => ?_)
  obtain ⟨hP, hD⟩ := va_rls (ws' := [(h0, .inr (11, [.ref q1, .int 0, .int 0, .ref q2, .int 0, .int 0, .int 0, .int 0, .int 0, .int 0, .ref q3, .int 0, .int 0, .int 0, .int 0, .int 0, .int 0, .int 0, .int 0, .ref q4, .null, .null, .null, .null, .null, .int 0, .null, .int 0, .null, .null, .null, .null, .null, .null, .int 0])), (q1, .inl (G 0, 196, .inl (fun _ => 0))), (q2, .inl (G 0, 49, .inl (fun _ => 0))), (q3, .inl (G 0, 320, .inl (fun _ => 0))), (q4, .inl (G 0, 11, .inl (upd (upd (upd (upd (upd (upd (upd (upd (upd (upd (upd (fun _ => 0) 0 0) 1 5) 2 12) 3 18) 4 23) 5 28) 6 34) 7 42) 8 46) 9 50) 10 54))), (q5, .inl (G 0, 54, .inl (upd g68 32 101)))]) hP hD rfl
  have hlt71 := LTs (g := g68) (k := 32) (c := 101) hlt69 (by rfl)
  generalize (upd g68 32 101) = g70 at hP hD hlt71
  refine lv_dup hx hb dX11_init_293 rfl ?_
  refine lv_bipush (v := 33) hx hb dX11_init_294 rfl ?_
  refine lv_bipush (v := 114) hx hb dX11_init_296 rfl ?_
  refine va_iast hx hb hK.1 hP hD hS 5 0 rfl rfl (vp_in_iff.mpr ⟨by decide, by decide⟩) dX11_init_298 (fun H locs hP hD hS => ?_)
  obtain ⟨hP, hD⟩ := va_rls (ws' := [(h0, .inr (11, [.ref q1, .int 0, .int 0, .ref q2, .int 0, .int 0, .int 0, .int 0, .int 0, .int 0, .ref q3, .int 0, .int 0, .int 0, .int 0, .int 0, .int 0, .int 0, .int 0, .ref q4, .null, .null, .null, .null, .null, .int 0, .null, .int 0, .null, .null, .null, .null, .null, .null, .int 0])), (q1, .inl (G 0, 196, .inl (fun _ => 0))), (q2, .inl (G 0, 49, .inl (fun _ => 0))), (q3, .inl (G 0, 320, .inl (fun _ => 0))), (q4, .inl (G 0, 11, .inl (upd (upd (upd (upd (upd (upd (upd (upd (upd (upd (upd (fun _ => 0) 0 0) 1 5) 2 12) 3 18) 4 23) 5 28) 6 34) 7 42) 8 46) 9 50) 10 54))), (q5, .inl (G 0, 54, .inl (upd g70 33 114)))]) hP hD rfl
  have hlt73 := LTs (g := g70) (k := 33) (c := 114) hlt71 (by rfl)
  generalize (upd g70 33 114) = g72 at hP hD hlt73
  refine lv_dup hx hb dX11_init_299 rfl ?_
  refine lv_bipush (v := 34) hx hb dX11_init_300 rfl ?_
  refine lv_bipush (v := 116) hx hb dX11_init_302 rfl ?_
  refine va_iast hx hb hK.1 hP hD hS 5 0 rfl rfl (vp_in_iff.mpr ⟨by decide, by decide⟩) dX11_init_304 (fun H locs hP hD hS => ?_)
  obtain ⟨hP, hD⟩ := va_rls (ws' := [(h0, .inr (11, [.ref q1, .int 0, .int 0, .ref q2, .int 0, .int 0, .int 0, .int 0, .int 0, .int 0, .ref q3, .int 0, .int 0, .int 0, .int 0, .int 0, .int 0, .int 0, .int 0, .ref q4, .null, .null, .null, .null, .null, .int 0, .null, .int 0, .null, .null, .null, .null, .null, .null, .int 0])), (q1, .inl (G 0, 196, .inl (fun _ => 0))), (q2, .inl (G 0, 49, .inl (fun _ => 0))), (q3, .inl (G 0, 320, .inl (fun _ => 0))), (q4, .inl (G 0, 11, .inl (upd (upd (upd (upd (upd (upd (upd (upd (upd (upd (upd (fun _ => 0) 0 0) 1 5) 2 12) 3 18) 4 23) 5 28) 6 34) 7 42) 8 46) 9 50) 10 54))), (q5, .inl (G 0, 54, .inl (upd g72 34 116)))]) hP hD rfl
  have hlt75 := LTs (g := g72) (k := 34) (c := 116) hlt73 (by rfl)
  generalize (upd g72 34 116) = g74 at hP hD hlt75
  refine lv_dup hx hb dX11_init_305 rfl ?_
  refine lv_bipush (v := 35) hx hb dX11_init_306 rfl ?_
  refine lv_bipush (v := 114) hx hb dX11_init_308 rfl ?_
  refine va_iast hx hb hK.1 hP hD hS 5 0 rfl rfl (vp_in_iff.mpr ⟨by decide, by decide⟩) dX11_init_310 (fun H locs hP hD hS => ?_)
  obtain ⟨hP, hD⟩ := va_rls (ws' := [(h0, .inr (11, [.ref q1, .int 0, .int 0, .ref q2, .int 0, .int 0, .int 0, .int 0, .int 0, .int 0, .ref q3, .int 0, .int 0, .int 0, .int 0, .int 0, .int 0, .int 0, .int 0, .ref q4, .null, .null, .null, .null, .null, .int 0, .null, .int 0, .null, .null, .null, .null, .null, .null, .int 0])), (q1, .inl (G 0, 196, .inl (fun _ => 0))), (q2, .inl (G 0, 49, .inl (fun _ => 0))), (q3, .inl (G 0, 320, .inl (fun _ => 0))), (q4, .inl (G 0, 11, .inl (upd (upd (upd (upd (upd (upd (upd (upd (upd (upd (upd (fun _ => 0) 0 0) 1 5) 2 12) 3 18) 4 23) 5 28) 6 34) 7 42) 8 46) 9 50) 10 54))), (q5, .inl (G 0, 54, .inl (upd g74 35 114)))]) hP hD rfl
  have hlt77 := LTs (g := g74) (k := 35) (c := 114) hlt75 (by rfl)
  generalize (upd g74 35 114) = g76 at hP hD hlt77
  refine lv_dup hx hb dX11_init_311 rfl ?_
  refine lv_bipush (v := 36) hx hb dX11_init_312 rfl ?_
  refine lv_bipush (v := 101) hx hb dX11_init_314 rfl ?_
  refine va_iast hx hb hK.1 hP hD hS 5 0 rfl rfl (vp_in_iff.mpr ⟨by decide, by decide⟩) dX11_init_316 (fun H locs hP hD hS => ?_)
  obtain ⟨hP, hD⟩ := va_rls (ws' := [(h0, .inr (11, [.ref q1, .int 0, .int 0, .ref q2, .int 0, .int 0, .int 0, .int 0, .int 0, .int 0, .ref q3, .int 0, .int 0, .int 0, .int 0, .int 0, .int 0, .int 0, .int 0, .ref q4, .null, .null, .null, .null, .null, .int 0, .null, .int 0, .null, .null, .null, .null, .null, .null, .int 0])), (q1, .inl (G 0, 196, .inl (fun _ => 0))), (q2, .inl (G 0, 49, .inl (fun _ => 0))), (q3, .inl (G 0, 320, .inl (fun _ => 0))), (q4, .inl (G 0, 11, .inl (upd (upd (upd (upd (upd (upd (upd (upd (upd (upd (upd (fun _ => 0) 0 0) 1 5) 2 12) 3 18) 4 23) 5 28) 6 34) 7 42) 8 46) 9 50) 10 54))), (q5, .inl (G 0, 54, .inl (upd g76 36 101)))]) hP hD rfl
  have hlt79 := LTs (g := g76) (k := 36) (c := 101) hlt77 (by rfl)
  generalize (upd g76 36 101) = g78 at hP hD hlt79
  refine lv_dup hx hb dX11_init_317 rfl ?_
  refine lv_bipush (v := 37) hx hb dX11_init_318 rfl ?_
  refine lv_bipush (v := 109) hx hb dX11_init_320 rfl ?_
  refine va_iast hx hb hK.1 hP hD hS 5 0 rfl rfl (vp_in_iff.mpr ⟨by decide, by decide⟩) dX11_init_322 (fun H locs hP hD hS => ?_)
  obtain ⟨hP, hD⟩ := va_rls (ws' := [(h0, .inr (11, [.ref q1, .int 0, .int 0, .ref q2, .int 0, .int 0, .int 0, .int 0, .int 0, .int 0, .ref q3, .int 0, .int 0, .int 0, .int 0, .int 0, .int 0, .int 0, .int 0, .ref q4, .null, .null, .null, .null, .null, .int 0, .null, .int 0, .null, .null, .null, .null, .null, .null, .int 0])), (q1, .inl (G 0, 196, .inl (fun _ => 0))), (q2, .inl (G 0, 49, .inl (fun _ => 0))), (q3, .inl (G 0, 320, .inl (fun _ => 0))), (q4, .inl (G 0, 11, .inl (upd (upd (upd (upd (upd (upd (upd (upd (upd (upd (upd (fun _ => 0) 0 0) 1 5) 2 12) 3 18) 4 23) 5 28) 6 34) 7 42) 8 46) 9 50) 10 54))), (q5, .inl (G 0, 54, .inl (upd g78 37 109)))]) hP hD rfl
  have hlt81 := LTs (g := g78) (k := 37) (c := 109) hlt79 (by rfl)
  generalize (upd g78 37 109) = g80 at hP hD hlt81
  refine lv_dup hx hb dX11_init_323 rfl ?_
  refine lv_bipush (v := 38) hx hb dX11_init_324 rfl ?_
  refine lv_bipush (v := 98) hx hb dX11_init_326 rfl ?_
  refine va_iast hx hb hK.1 hP hD hS 5 0 rfl rfl (vp_in_iff.mpr ⟨by decide, by decide⟩) dX11_init_328 (fun H locs hP hD hS => ?_)
  obtain ⟨hP, hD⟩ := va_rls (ws' := [(h0, .inr (11, [.ref q1, .int 0, .int 0, .ref q2, .int 0, .int 0, .int 0, .int 0, .int 0, .int 0, .ref q3, .int 0, .int 0, .int 0, .int 0, .int 0, .int 0, .int 0, .int 0, .ref q4, .null, .null, .null, .null, .null, .int 0, .null, .int 0, .null, .null, .null, .null, .null, .null, .int 0])), (q1, .inl (G 0, 196, .inl (fun _ => 0))), (q2, .inl (G 0, 49, .inl (fun _ => 0))), (q3, .inl (G 0, 320, .inl (fun _ => 0))), (q4, .inl (G 0, 11, .inl (upd (upd (upd (upd (upd (upd (upd (upd (upd (upd (upd (fun _ => 0) 0 0) 1 5) 2 12) 3 18) 4 23) 5 28) 6 34) 7 42) 8 46) 9 50) 10 54))), (q5, .inl (G 0, 54, .inl (upd g80 38 98)))]) hP hD rfl
  have hlt83 := LTs (g := g80) (k := 38) (c := 98) hlt81 (by rfl)
  generalize (upd g80 38 98) = g82 at hP hD hlt83
  refine lv_dup hx hb dX11_init_329 rfl ?_
  refine lv_bipush (v := 39) hx hb dX11_init_330 rfl ?_
  refine lv_bipush (v := 108) hx hb dX11_init_332 rfl ?_
  refine va_iast hx hb hK.1 hP hD hS 5 0 rfl rfl (vp_in_iff.mpr ⟨by decide, by decide⟩) dX11_init_334 (fun H locs hP hD hS => ?_)
  obtain ⟨hP, hD⟩ := va_rls (ws' := [(h0, .inr (11, [.ref q1, .int 0, .int 0, .ref q2, .int 0, .int 0, .int 0, .int 0, .int 0, .int 0, .ref q3, .int 0, .int 0, .int 0, .int 0, .int 0, .int 0, .int 0, .int 0, .ref q4, .null, .null, .null, .null, .null, .int 0, .null, .int 0, .null, .null, .null, .null, .null, .null, .int 0])), (q1, .inl (G 0, 196, .inl (fun _ => 0))), (q2, .inl (G 0, 49, .inl (fun _ => 0))), (q3, .inl (G 0, 320, .inl (fun _ => 0))), (q4, .inl (G 0, 11, .inl (upd (upd (upd (upd (upd (upd (upd (upd (upd (upd (upd (fun _ => 0) 0 0) 1 5) 2 12) 3 18) 4 23) 5 28) 6 34) 7 42) 8 46) 9 50) 10 54))), (q5, .inl (G 0, 54, .inl (upd g82 39 108)))]) hP hD rfl
  have hlt85 := LTs (g := g82) (k := 39) (c := 108) hlt83 (by rfl)
  generalize (upd g82 39 108) = g84 at hP hD hlt85
  refine lv_dup hx hb dX11_init_335 rfl ?_
  refine lv_bipush (v := 40) hx hb dX11_init_336 rfl ?_
  refine lv_bipush (v := 101) hx hb dX11_init_338 rfl ?_
  refine va_iast hx hb hK.1 hP hD hS 5 0 rfl rfl (vp_in_iff.mpr ⟨by decide, by decide⟩) dX11_init_340 (fun H locs hP hD hS => ?_)
  obtain ⟨hP, hD⟩ := va_rls (ws' := [(h0, .inr (11, [.ref q1, .int 0, .int 0, .ref q2, .int 0, .int 0, .int 0, .int 0, .int 0, .int 0, .ref q3, .int 0, .int 0, .int 0, .int 0, .int 0, .int 0, .int 0, .int 0, .ref q4, .null, .null, .null, .null, .null, .int 0, .null, .int 0, .null, .null, .null, .null, .null, .null, .int 0])), (q1, .inl (G 0, 196, .inl (fun _ => 0))), (q2, .inl (G 0, 49, .inl (fun _ => 0))), (q3, .inl (G 0, 320, .inl (fun _ => 0))), (q4, .inl (G 0, 11, .inl (upd (upd (upd (upd (upd (upd (upd (upd (upd (upd (upd (fun _ => 0) 0 0) 1 5) 2 12) 3 18) 4 23) 5 28) 6 34) 7 42) 8 46) 9 50) 10 54))), (q5, .inl (G 0, 54, .inl (upd g84 40 101)))]) hP hD rfl
  have hlt87 := LTs (g := g84) (k := 40) (c := 101) hlt85 (by rfl)
  generalize (upd g84 40 101) = g86 at hP hD hlt87
  refine lv_dup hx hb dX11_init_341 rfl ?_
  refine lv_bipush (v := 41) hx hb dX11_init_342 rfl ?_
  refine lv_bipush (v := 114) hx hb dX11_init_344 rfl ?_
  refine va_iast hx hb hK.1 hP hD hS 5 0 rfl rfl (vp_in_iff.mpr ⟨by decide, by decide⟩) dX11_init_346 (fun H locs hP hD hS => ?_)
  obtain ⟨hP, hD⟩ := va_rls (ws' := [(h0, .inr (11, [.ref q1, .int 0, .int 0, .ref q2, .int 0, .int 0, .int 0, .int 0, .int 0, .int 0, .ref q3, .int 0, .int 0, .int 0, .int 0, .int 0, .int 0, .int 0, .int 0, .ref q4, .null, .null, .null, .null, .null, .int 0, .null, .int 0, .null, .null, .null, .null, .null, .null, .int 0])), (q1, .inl (G 0, 196, .inl (fun _ => 0))), (q2, .inl (G 0, 49, .inl (fun _ => 0))), (q3, .inl (G 0, 320, .inl (fun _ => 0))), (q4, .inl (G 0, 11, .inl (upd (upd (upd (upd (upd (upd (upd (upd (upd (upd (upd (fun _ => 0) 0 0) 1 5) 2 12) 3 18) 4 23) 5 28) 6 34) 7 42) 8 46) 9 50) 10 54))), (q5, .inl (G 0, 54, .inl (upd g86 41 114)))]) hP hD rfl
  have hlt89 := LTs (g := g86) (k := 41) (c := 114) hlt87 (by rfl)
  generalize (upd g86 41 114) = g88 at hP hD hlt89
  refine lv_dup hx hb dX11_init_347 rfl ?_
  refine lv_bipush (v := 42) hx hb dX11_init_348 rfl ?_
  refine lv_bipush (v := 116) hx hb dX11_init_350 rfl ?_
  refine va_iast hx hb hK.1 hP hD hS 5 0 rfl rfl (vp_in_iff.mpr ⟨by decide, by decide⟩) dX11_init_352 (fun H locs hP hD hS => ?_)
  obtain ⟨hP, hD⟩ := va_rls (ws' := [(h0, .inr (11, [.ref q1, .int 0, .int 0, .ref q2, .int 0, .int 0, .int 0, .int 0, .int 0, .int 0, .ref q3, .int 0, .int 0, .int 0, .int 0, .int 0, .int 0, .int 0, .int 0, .ref q4, .null, .null, .null, .null, .null, .int 0, .null, .int 0, .null, .null, .null, .null, .null, .null, .int 0])), (q1, .inl (G 0, 196, .inl (fun _ => 0))), (q2, .inl (G 0, 49, .inl (fun _ => 0))), (q3, .inl (G 0, 320, .inl (fun _ => 0))), (q4, .inl (G 0, 11, .inl (upd (upd (upd (upd (upd (upd (upd (upd (upd (upd (upd (fun _ => 0) 0 0) 1 5) 2 12) 3 18) 4 23) 5 28) 6 34) 7 42) 8 46) 9 50) 10 54))), (q5, .inl (G 0, 54, .inl (upd g88 42 116)))]) hP hD rfl
  have hlt91 := LTs (g := g88) (k := 42) (c := 116) hlt89 (by rfl)
  generalize (upd g88 42 116) = g90 at hP hD hlt91
  refine lv_dup hx hb dX11_init_353 rfl ?_
  refine lv_bipush (v := 43) hx hb dX11_init_354 rfl ?_
  refine lv_bipush (v := 97) hx hb dX11_init_356 rfl ?_
  refine va_iast hx hb hK.1 hP hD hS 5 0 rfl rfl (vp_in_iff.mpr ⟨by decide, by decide⟩) dX11_init_358 (fun H locs hP hD hS => ?_)
  obtain ⟨hP, hD⟩ := va_rls (ws' := [(h0, .inr (11, [.ref q1, .int 0, .int 0, .ref q2, .int 0, .int 0, .int 0, .int 0, .int 0, .int 0, .ref q3, .int 0, .int 0, .int 0, .int 0, .int 0, .int 0, .int 0, .int 0, .ref q4, .null, .null, .null, .null, .null, .int 0, .null, .int 0, .null, .null, .null, .null, .null, .null, .int 0])), (q1, .inl (G 0, 196, .inl (fun _ => 0))), (q2, .inl (G 0, 49, .inl (fun _ => 0))), (q3, .inl (G 0, 320, .inl (fun _ => 0))), (q4, .inl (G 0, 11, .inl (upd (upd (upd (upd (upd (upd (upd (upd (upd (upd (upd (fun _ => 0) 0 0) 1 5) 2 12) 3 18) 4 23) 5 28) 6 34) 7 42) 8 46) 9 50) 10 54))), (q5, .inl (G 0, 54, .inl (upd g90 43 97)))]) hP hD rfl
  have hlt93 := LTs (g := g90) (k := 43) (c := 97) hlt91 (by rfl)
  generalize (upd g90 43 97) = g92 at hP hD hlt93
  refine lv_dup hx hb dX11_init_359 rfl ?_
  refine lv_bipush (v := 44) hx hb dX11_init_360 rfl ?_
  refine lv_bipush (v := 108) hx hb dX11_init_362 rfl ?_
  refine va_iast hx hb hK.1 hP hD hS 5 0 rfl rfl (vp_in_iff.mpr ⟨by decide, by decide⟩) dX11_init_364 (fun H locs hP hD hS => ?_)
  obtain ⟨hP, hD⟩ := va_rls (ws' := [(h0, .inr (11, [.ref q1, .int 0, .int 0, .ref q2, .int 0, .int 0, .int 0, .int 0, .int 0, .int 0, .ref q3, .int 0, .int 0, .int 0, .int 0, .int 0, .int 0, .int 0, .int 0, .ref q4, .null, .null, .null, .null, .null, .int 0, .null, .int 0, .null, .null, .null, .null, .null, .null, .int 0])), (q1, .inl (G 0, 196, .inl (fun _ => 0))), (q2, .inl (G 0, 49, .inl (fun _ => 0))), (q3, .inl (G 0, 320, .inl (fun _ => 0))), (q4, .inl (G 0, 11, .inl (upd (upd (upd (upd (upd (upd (upd (upd (upd (upd (upd (fun _ => 0) 0 0) 1 5) 2 12) 3 18) 4 23) 5 28) 6 34) 7 42) 8 46) 9 50) 10 54))), (q5, .inl (G 0, 54, .inl (upd g92 44 108)))]) hP hD rfl
  have hlt95 := LTs (g := g92) (k := 44) (c := 108) hlt93 (by rfl)
  generalize (upd g92 44 108) = g94 at hP hD hlt95
  refine lv_dup hx hb dX11_init_365 rfl ?_
  refine lv_bipush (v := 45) hx hb dX11_init_366 rfl ?_
  refine lv_bipush (v := 108) hx hb dX11_init_368 rfl ?_
  refine va_iast hx hb hK.1 hP hD hS 5 0 rfl rfl (vp_in_iff.mpr ⟨by decide, by decide⟩) dX11_init_370 (fun H locs hP hD hS => ?_)
  obtain ⟨hP, hD⟩ := va_rls (ws' := [(h0, .inr (11, [.ref q1, .int 0, .int 0, .ref q2, .int 0, .int 0, .int 0, .int 0, .int 0, .int 0, .ref q3, .int 0, .int 0, .int 0, .int 0, .int 0, .int 0, .int 0, .int 0, .ref q4, .null, .null, .null, .null, .null, .int 0, .null, .int 0, .null, .null, .null, .null, .null, .null, .int 0])), (q1, .inl (G 0, 196, .inl (fun _ => 0))), (q2, .inl (G 0, 49, .inl (fun _ => 0))), (q3, .inl (G 0, 320, .inl (fun _ => 0))), (q4, .inl (G 0, 11, .inl (upd (upd (upd (upd (upd (upd (upd (upd (upd (upd (upd (fun _ => 0) 0 0) 1 5) 2 12) 3 18) 4 23) 5 28) 6 34) 7 42) 8 46) 9 50) 10 54))), (q5, .inl (G 0, 54, .inl (upd g94 45 108)))]) hP hD rfl
  have hlt97 := LTs (g := g94) (k := 45) (c := 108) hlt95 (by rfl)
  generalize (upd g94 45 108) = g96 at hP hD hlt97
  refine lv_dup hx hb dX11_init_371 rfl ?_
  refine lv_bipush (v := 46) hx hb dX11_init_372 rfl ?_
  refine lv_bipush (v := 116) hx hb dX11_init_374 rfl ?_
  refine va_iast hx hb hK.1 hP hD hS 5 0 rfl rfl (vp_in_iff.mpr ⟨by decide, by decide⟩) dX11_init_376 (fun H locs hP hD hS => ?_)
  obtain ⟨hP, hD⟩ := va_rls (ws' := [(h0, .inr (11, [.ref q1, .int 0, .int 0, .ref q2, .int 0, .int 0, .int 0, .int 0, .int 0, .int 0, .ref q3, .int 0, .int 0, .int 0, .int 0, .int 0, .int 0, .int 0, .int 0, .ref q4, .null, .null, .null, .null, .null, .int 0, .null, .int 0, .null, .null, .null, .null, .null, .null, .int 0])), (q1, .inl (G 0, 196, .inl (fun _ => 0))), (q2, .inl (G 0, 49, .inl (fun _ => 0))), (q3, .inl (G 0, 320, .inl (fun _ => 0))), (q4, .inl (G 0, 11, .inl (upd (upd (upd (upd (upd (upd (upd (upd (upd (upd (upd (fun _ => 0) 0 0) 1 5) 2 12) 3 18) 4 23) 5 28) 6 34) 7 42) 8 46) 9 50) 10 54))), (q5, .inl (G 0, 54, .inl (upd g96 46 116)))]) hP hD rfl
  have hlt99 := LTs (g := g96) (k := 46) (c := 116) hlt97 (by rfl)
  generalize (upd g96 46 116) = g98 at hP hD hlt99
  refine lv_dup hx hb dX11_init_377 rfl ?_
  refine lv_bipush (v := 47) hx hb dX11_init_378 rfl ?_
  refine lv_bipush (v := 119) hx hb dX11_init_380 rfl ?_
  refine va_iast hx hb hK.1 hP hD hS 5 0 rfl rfl (vp_in_iff.mpr ⟨by decide, by decide⟩) dX11_init_382 (fun H locs hP hD hS => ?_)
  obtain ⟨hP, hD⟩ := va_rls (ws' := [(h0, .inr (11, [.ref q1, .int 0, .int 0, .ref q2, .int 0, .int 0, .int 0, .int 0, .int 0, .int 0, .ref q3, .int 0, .int 0, .int 0, .int 0, .int 0, .int 0, .int 0, .int 0, .ref q4, .null, .null, .null, .null, .null, .int 0, .null, .int 0, .null, .null, .null, .null, .null, .null, .int 0])), (q1, .inl (G 0, 196, .inl (fun _ => 0))), (q2, .inl (G 0, 49, .inl (fun _ => 0))), (q3, .inl (G 0, 320, .inl (fun _ => 0))), (q4, .inl (G 0, 11, .inl (upd (upd (upd (upd (upd (upd (upd (upd (upd (upd (upd (fun _ => 0) 0 0) 1 5) 2 12) 3 18) 4 23) 5 28) 6 34) 7 42) 8 46) 9 50) 10 54))), (q5, .inl (G 0, 54, .inl (upd g98 47 119)))]) hP hD rfl
  have hlt101 := LTs (g := g98) (k := 47) (c := 119) hlt99 (by rfl)
  generalize (upd g98 47 119) = g100 at hP hD hlt101
  refine lv_dup hx hb dX11_init_383 rfl ?_
  refine lv_bipush (v := 48) hx hb dX11_init_384 rfl ?_
  refine lv_bipush (v := 105) hx hb dX11_init_386 rfl ?_
  refine va_iast hx hb hK.1 hP hD hS 5 0 rfl rfl (vp_in_iff.mpr ⟨by decide, by decide⟩) dX11_init_388 (fun H locs hP hD hS => ?_)
  obtain ⟨hP, hD⟩ := va_rls (ws' := [(h0, .inr (11, [.ref q1, .int 0, .int 0, .ref q2, .int 0, .int 0, .int 0, .int 0, .int 0, .int 0, .ref q3, .int 0, .int 0, .int 0, .int 0, .int 0, .int 0, .int 0, .int 0, .ref q4, .null, .null, .null, .null, .null, .int 0, .null, .int 0, .null, .null, .null, .null, .null, .null, .int 0])), (q1, .inl (G 0, 196, .inl (fun _ => 0))), (q2, .inl (G 0, 49, .inl (fun _ => 0))), (q3, .inl (G 0, 320, .inl (fun _ => 0))), (q4, .inl (G 0, 11, .inl (upd (upd (upd (upd (upd (upd (upd (upd (upd (upd (upd (fun _ => 0) 0 0) 1 5) 2 12) 3 18) 4 23) 5 28) 6 34) 7 42) 8 46) 9 50) 10 54))), (q5, .inl (G 0, 54, .inl (upd g100 48 105)))]) hP hD rfl
  have hlt103 := LTs (g := g100) (k := 48) (c := 105) hlt101 (by rfl)
  generalize (upd g100 48 105) = g102 at hP hD hlt103
  refine lv_dup hx hb dX11_init_389 rfl ?_
  refine lv_bipush (v := 49) hx hb dX11_init_390 rfl ?_
  refine lv_bipush (v := 110) hx hb dX11_init_392 rfl ?_
  refine va_iast hx hb hK.1 hP hD hS 5 0 rfl rfl (vp_in_iff.mpr ⟨by decide, by decide⟩) dX11_init_394 (fun H locs hP hD hS => ?_)
  obtain ⟨hP, hD⟩ := va_rls (ws' := [(h0, .inr (11, [.ref q1, .int 0, .int 0, .ref q2, .int 0, .int 0, .int 0, .int 0, .int 0, .int 0, .ref q3, .int 0, .int 0, .int 0, .int 0, .int 0, .int 0, .int 0, .int 0, .ref q4, .null, .null, .null, .null, .null, .int 0, .null, .int 0, .null, .null, .null, .null, .null, .null, .int 0])), (q1, .inl (G 0, 196, .inl (fun _ => 0))), (q2, .inl (G 0, 49, .inl (fun _ => 0))), (q3, .inl (G 0, 320, .inl (fun _ => 0))), (q4, .inl (G 0, 11, .inl (upd (upd (upd (upd (upd (upd (upd (upd (upd (upd (upd (fun _ => 0) 0 0) 1 5) 2 12) 3 18) 4 23) 5 28) 6 34) 7 42) 8 46) 9 50) 10 54))), (q5, .inl (G 0, 54, .inl (upd g102 49 110)))]) hP hD rfl
  have hlt105 := LTs (g := g102) (k := 49) (c := 110) hlt103 (by rfl)
  generalize (upd g102 49 110) = g104 at hP hD hlt105
  refine lv_dup hx hb dX11_init_395 rfl ?_
  refine lv_bipush (v := 50) hx hb dX11_init_396 rfl ?_
  refine lv_bipush (v := 112) hx hb dX11_init_398 rfl ?_
  refine va_iast hx hb hK.1 hP hD hS 5 0 rfl rfl (vp_in_iff.mpr ⟨by decide, by decide⟩) dX11_init_400 (fun H locs hP hD hS => ?_)
  obtain ⟨hP, hD⟩ := va_rls (ws' := [(h0, .inr (11, [.ref q1, .int 0, .int 0, .ref q2, .int 0, .int 0, .int 0, .int 0, .int 0, .int 0, .ref q3, .int 0, .int 0, .int 0, .int 0, .int 0, .int 0, .int 0, .int 0, .ref q4, .null, .null, .null, .null, .null, .int 0, .null, .int 0, .null, .null, .null, .null, .null, .null, .int 0])), (q1, .inl (G 0, 196, .inl (fun _ => 0))), (q2, .inl (G 0, 49, .inl (fun _ => 0))), (q3, .inl (G 0, 320, .inl (fun _ => 0))), (q4, .inl (G 0, 11, .inl (upd (upd (upd (upd (upd (upd (upd (upd (upd (upd (upd (fun _ => 0) 0 0) 1 5) 2 12) 3 18) 4 23) 5 28) 6 34) 7 42) 8 46) 9 50) 10 54))), (q5, .inl (G 0, 54, .inl (upd g104 50 112)))]) hP hD rfl
  have hlt107 := LTs (g := g104) (k := 50) (c := 112) hlt105 (by rfl)
  generalize (upd g104 50 112) = g106 at hP hD hlt107
  refine lv_dup hx hb dX11_init_401 rfl ?_
  refine lv_bipush (v := 51) hx hb dX11_init_402 rfl ?_
  refine lv_bipush (v := 97) hx hb dX11_init_404 rfl ?_
  refine va_iast hx hb hK.1 hP hD hS 5 0 rfl rfl (vp_in_iff.mpr ⟨by decide, by decide⟩) dX11_init_406 (fun H locs hP hD hS => ?_)
  obtain ⟨hP, hD⟩ := va_rls (ws' := [(h0, .inr (11, [.ref q1, .int 0, .int 0, .ref q2, .int 0, .int 0, .int 0, .int 0, .int 0, .int 0, .ref q3, .int 0, .int 0, .int 0, .int 0, .int 0, .int 0, .int 0, .int 0, .ref q4, .null, .null, .null, .null, .null, .int 0, .null, .int 0, .null, .null, .null, .null, .null, .null, .int 0])), (q1, .inl (G 0, 196, .inl (fun _ => 0))), (q2, .inl (G 0, 49, .inl (fun _ => 0))), (q3, .inl (G 0, 320, .inl (fun _ => 0))), (q4, .inl (G 0, 11, .inl (upd (upd (upd (upd (upd (upd (upd (upd (upd (upd (upd (fun _ => 0) 0 0) 1 5) 2 12) 3 18) 4 23) 5 28) 6 34) 7 42) 8 46) 9 50) 10 54))), (q5, .inl (G 0, 54, .inl (upd g106 51 97)))]) hP hD rfl
  have hlt109 := LTs (g := g106) (k := 51) (c := 97) hlt107 (by rfl)
  generalize (upd g106 51 97) = g108 at hP hD hlt109
  refine lv_dup hx hb dX11_init_407 rfl ?_
  refine lv_bipush (v := 52) hx hb dX11_init_408 rfl ?_
  refine lv_bipush (v := 105) hx hb dX11_init_410 rfl ?_
  refine va_iast hx hb hK.1 hP hD hS 5 0 rfl rfl (vp_in_iff.mpr ⟨by decide, by decide⟩) dX11_init_412 (fun H locs hP hD hS => ?_)
  obtain ⟨hP, hD⟩ := va_rls (ws' := [(h0, .inr (11, [.ref q1, .int 0, .int 0, .ref q2, .int 0, .int 0, .int 0, .int 0, .int 0, .int 0, .ref q3, .int 0, .int 0, .int 0, .int 0, .int 0, .int 0, .int 0, .int 0, .ref q4, .null, .null, .null, .null, .null, .int 0, .null, .int 0, .null, .null, .null, .null, .null, .null, .int 0])), (q1, .inl (G 0, 196, .inl (fun _ => 0))), (q2, .inl (G 0, 49, .inl (fun _ => 0))), (q3, .inl (G 0, 320, .inl (fun _ => 0))), (q4, .inl (G 0, 11, .inl (upd (upd (upd (upd (upd (upd (upd (upd (upd (upd (upd (fun _ => 0) 0 0) 1 5) 2 12) 3 18) 4 23) 5 28) 6 34) 7 42) 8 46) 9 50) 10 54))), (q5, .inl (G 0, 54, .inl (upd g108 52 105)))]) hP hD rfl
  have hlt111 := LTs (g := g108) (k := 52) (c := 105) hlt109 (by rfl)
  generalize (upd g108 52 105) = g110 at hP hD hlt111
  refine lv_dup hx hb dX11_init_413 rfl ?_
  refine lv_bipush (v := 53) hx hb dX11_init_414 rfl ?_
  refine lv_bipush (v := 100) hx hb dX11_init_416 rfl ?_
  refine va_iast hx hb hK.1 hP hD hS 5 0 rfl rfl (vp_in_iff.mpr ⟨by decide, by decide⟩) dX11_init_418 (fun H locs hP hD hS => ?_)
  obtain ⟨hP, hD⟩ := va_rls (ws' := [(h0, .inr (11, [.ref q1, .int 0, .int 0, .ref q2, .int 0, .int 0, .int 0, .int 0, .int 0, .int 0, .ref q3, .int 0, .int 0, .int 0, .int 0, .int 0, .int 0, .int 0, .int 0, .ref q4, .null, .null, .null, .null, .null, .int 0, .null, .int 0, .null, .null, .null, .null, .null, .null, .int 0])), (q1, .inl (G 0, 196, .inl (fun _ => 0))), (q2, .inl (G 0, 49, .inl (fun _ => 0))), (q3, .inl (G 0, 320, .inl (fun _ => 0))), (q4, .inl (G 0, 11, .inl (upd (upd (upd (upd (upd (upd (upd (upd (upd (upd (upd (fun _ => 0) 0 0) 1 5) 2 12) 3 18) 4 23) 5 28) 6 34) 7 42) 8 46) 9 50) 10 54))), (q5, .inl (G 0, 54, .inl (upd g110 53 100)))]) hP hD rfl
  have hlt113 := LTs (g := g110) (k := 53) (c := 100) hlt111 (by rfl)
  generalize (upd g110 53 100) = g112 at hP hD hlt113
  refine va_putF (D := (dC, dI)) (ci := 11) (v := .ref q5) (ty := (.array .int)) (C := RX11) (T := TX11) (N := 35) hx hb hg inG11 tyX11 tyX11_ok nmX11 hown hK.1 hP hD hS 0 rfl rfl 20 (Nat.le_of_ble_eq_true rfl) (hg _ wt_898) (fun _ h9 => h9) rfl hin rfl (by decide +kernel) rfl rfl (Nat.le_of_ble_eq_true rfl) dX11_init_419 (fun H locs hP hD hS => ?_)
  obtain ⟨hP, hD⟩ := va_rls (ws' := [(h0, .inr (11, [.ref q1, .int 0, .int 0, .ref q2, .int 0, .int 0, .int 0, .int 0, .int 0, .int 0, .ref q3, .int 0, .int 0, .int 0, .int 0, .int 0, .int 0, .int 0, .int 0, .ref q4, .ref q5, .null, .null, .null, .null, .int 0, .null, .int 0, .null, .null, .null, .null, .null, .null, .int 0])), (q1, .inl (G 0, 196, .inl (fun _ => 0))), (q2, .inl (G 0, 49, .inl (fun _ => 0))), (q3, .inl (G 0, 320, .inl (fun _ => 0))), (q4, .inl (G 0, 11, .inl (upd (upd (upd (upd (upd (upd (upd (upd (upd (upd (upd (fun _ => 0) 0 0) 1 5) 2 12) 3 18) 4 23) 5 28) 6 34) 7 42) 8 46) 9 50) 10 54))), (q5, .inl (G 0, 54, .inl g112))]) hP hD rfl
  refine lv_aload_n hx hb dX11_init_422 rfl (lv_at hl 0 rfl) ?_
  refine lv_bipush (v := 10) hx hb dX11_init_423 rfl ?_
  refine va_newa (atype := .long) (N' := 10) (a0 := (10, .inr (.inl (fun _ => 0)))) hx hb (hg _ wt_169) rfl hK.1 hP hD hS hA (fun _ => rfl) (by decide) (by decide) (by decide) (Nat.le_of_ble_eq_true rfl) (Nat.le_of_ble_eq_true rfl) dX11_init_425 (fun q114 cA H hK9 hP hD hS => ?_)
  obtain rfl := uniA hK9 1 rfl
  obtain ⟨hP, hD⟩ := va_rls (ws' := [(h0, .inr (11, [.ref q1, .int 0, .int 0, .ref q2, .int 0, .int 0, .int 0, .int 0, .int 0, .int 0, .ref q3, .int 0, .int 0, .int 0, .int 0, .int 0, .int 0, .int 0, .int 0, .ref q4, .ref q5, .null, .null, .null, .null, .int 0, .null, .int 0, .null, .null, .null, .null, .null, .null, .int 0])), (q1, .inl (G 0, 196, .inl (fun _ => 0))), (q2, .inl (G 0, 49, .inl (fun _ => 0))), (q3, .inl (G 0, 320, .inl (fun _ => 0))), (q4, .inl (G 0, 11, .inl (upd (upd (upd (upd (upd (upd (upd (upd (upd (upd (upd (fun _ => 0) 0 0) 1 5) 2 12) 3 18) 4 23) 5 28) 6 34) 7 42) 8 46) 9 50) 10 54))), (q5, .inl (G 0, 54, .inl g112)), (q114, .inl (G 1, 10, .inr (.inl (fun _ => 0))))]) hP hD rfl
  refine W.widen (k := 6) (n := 640) (Nat.le_of_ble_eq_true rfl) (Nat.le_of_ble_eq_true rfl) ?_
  refine va_putF (D := (dC, dI)) (ci := 11) (v := .ref q114) (ty := (.array .long)) (C := RX11) (T := TX11) (N := 35) hx hb hg inG11 tyX11 tyX11_ok nmX11 hown hK.1 hP hD hS 0 rfl rfl 21 (Nat.le_of_ble_eq_true rfl) (hg _ wt_899) (fun _ h9 => h9) rfl hin rfl (by decide +kernel) rfl rfl (Nat.le_of_ble_eq_true rfl) dX11_init_427 (fun H locs hP hD hS => ?_)
  obtain ⟨hP, hD⟩ := va_rls (ws' := [(h0, .inr (11, [.ref q1, .int 0, .int 0, .ref q2, .int 0, .int 0, .int 0, .int 0, .int 0, .int 0, .ref q3, .int 0, .int 0, .int 0, .int 0, .int 0, .int 0, .int 0, .int 0, .ref q4, .ref q5, .ref q114, .null, .null, .null, .int 0, .null, .int 0, .null, .null, .null, .null, .null, .null, .int 0])), (q1, .inl (G 0, 196, .inl (fun _ => 0))), (q2, .inl (G 0, 49, .inl (fun _ => 0))), (q3, .inl (G 0, 320, .inl (fun _ => 0))), (q4, .inl (G 0, 11, .inl (upd (upd (upd (upd (upd (upd (upd (upd (upd (upd (upd (fun _ => 0) 0 0) 1 5) 2 12) 3 18) 4 23) 5 28) 6 34) 7 42) 8 46) 9 50) 10 54))), (q5, .inl (G 0, 54, .inl g112)), (q114, .inl (G 1, 10, .inr (.inl (fun _ => 0))))]) hP hD rfl
  refine lv_aload_n hx hb dX11_init_430 rfl (lv_at hl 0 rfl) ?_
  refine lv_bipush (v := 10) hx hb dX11_init_431 rfl ?_
  refine va_newa (atype := .long) (N' := 10) (a0 := (10, .inr (.inl (fun _ => 0)))) hx hb (hg _ wt_169) rfl hK.1 hP hD hS hA (fun _ => rfl) (by decide) (by decide) (by decide) (Nat.le_of_ble_eq_true rfl) (Nat.le_of_ble_eq_true rfl) dX11_init_433 (fun q115 cA H hK9 hP hD hS => ?_)
  obtain rfl := uniA hK9 1 rfl
  obtain ⟨hP, hD⟩ := va_rls (ws' := [(h0, .inr (11, [.ref q1, .int 0, .int 0, .ref q2, .int 0, .int 0, .int 0, .int 0, .int 0, .int 0, .ref q3, .int 0, .int 0, .int 0, .int 0, .int 0, .int 0, .int 0, .int 0, .ref q4, .ref q5, .ref q114, .null, .null, .null, .int 0, .null, .int 0, .null, .null, .null, .null, .null, .null, .int 0])), (q1, .inl (G 0, 196, .inl (fun _ => 0))), (q2, .inl (G 0, 49, .inl (fun _ => 0))), (q3, .inl (G 0, 320, .inl (fun _ => 0))), (q4, .inl (G 0, 11, .inl (upd (upd (upd (upd (upd (upd (upd (upd (upd (upd (upd (fun _ => 0) 0 0) 1 5) 2 12) 3 18) 4 23) 5 28) 6 34) 7 42) 8 46) 9 50) 10 54))), (q5, .inl (G 0, 54, .inl g112)), (q114, .inl (G 1, 10, .inr (.inl (fun _ => 0)))), (q115, .inl (G 1, 10, .inr (.inl (fun _ => 0))))]) hP hD rfl
  refine W.widen (k := 7) (n := 650) (Nat.le_of_ble_eq_true rfl) (Nat.le_of_ble_eq_true rfl) ?_
  refine va_putF (D := (dC, dI)) (ci := 11) (v := .ref q115) (ty := (.array .long)) (C := RX11) (T := TX11) (N := 35) hx hb hg inG11 tyX11 tyX11_ok nmX11 hown hK.1 hP hD hS 0 rfl rfl 22 (Nat.le_of_ble_eq_true rfl) (hg _ wt_900) (fun _ h9 => h9) rfl hin rfl (by decide +kernel) rfl rfl (Nat.le_of_ble_eq_true rfl) dX11_init_435 (fun H locs hP hD hS => ?_)
  obtain ⟨hP, hD⟩ := va_rls (ws' := [(h0, .inr (11, [.ref q1, .int 0, .int 0, .ref q2, .int 0, .int 0, .int 0, .int 0, .int 0, .int 0, .ref q3, .int 0, .int 0, .int 0, .int 0, .int 0, .int 0, .int 0, .int 0, .ref q4, .ref q5, .ref q114, .ref q115, .null, .null, .int 0, .null, .int 0, .null, .null, .null, .null, .null, .null, .int 0])), (q1, .inl (G 0, 196, .inl (fun _ => 0))), (q2, .inl (G 0, 49, .inl (fun _ => 0))), (q3, .inl (G 0, 320, .inl (fun _ => 0))), (q4, .inl (G 0, 11, .inl (upd (upd (upd (upd (upd (upd (upd (upd (upd (upd (upd (fun _ => 0) 0 0) 1 5) 2 12) 3 18) 4 23) 5 28) 6 34) 7 42) 8 46) 9 50) 10 54))), (q5, .inl (G 0, 54, .inl g112)), (q114, .inl (G 1, 10, .inr (.inl (fun _ => 0)))), (q115, .inl (G 1, 10, .inr (.inl (fun _ => 0))))]) hP hD rfl
  refine lv_aload_n hx hb dX11_init_438 rfl (lv_at hl 0 rfl) ?_
  refine lv_sipush (v := 770) hx hb dX11_init_439 rfl ?_
  refine va_newa (atype := .long) (N' := 770) (a0 := (770, .inr (.inl (fun _ => 0)))) hx hb (hg _ wt_169) rfl hK.1 hP hD hS hA (fun _ => rfl) (by decide) (by decide) (by decide) (Nat.le_of_ble_eq_true rfl) (Nat.le_of_ble_eq_true rfl) dX11_init_442 (fun q116 cA H hK9 hP hD hS => ?_)
  obtain rfl := uniA hK9 1 rfl
  obtain ⟨hP, hD⟩ := va_rls (ws' := [(h0, .inr (11, [.ref q1, .int 0, .int 0, .ref q2, .int 0, .int 0, .int 0, .int 0, .int 0, .int 0, .ref q3, .int 0, .int 0, .int 0, .int 0, .int 0, .int 0, .int 0, .int 0, .ref q4, .ref q5, .ref q114, .ref q115, .null, .null, .int 0, .null, .int 0, .null, .null, .null, .null, .null, .null, .int 0])), (q1, .inl (G 0, 196, .inl (fun _ => 0))), (q2, .inl (G 0, 49, .inl (fun _ => 0))), (q3, .inl (G 0, 320, .inl (fun _ => 0))), (q4, .inl (G 0, 11, .inl (upd (upd (upd (upd (upd (upd (upd (upd (upd (upd (upd (fun _ => 0) 0 0) 1 5) 2 12) 3 18) 4 23) 5 28) 6 34) 7 42) 8 46) 9 50) 10 54))), (q5, .inl (G 0, 54, .inl g112)), (q114, .inl (G 1, 10, .inr (.inl (fun _ => 0)))), (q115, .inl (G 1, 10, .inr (.inl (fun _ => 0)))), (q116, .inl (G 1, 770, .inr (.inl (fun _ => 0))))]) hP hD rfl
  refine W.widen (k := 8) (n := 1420) (Nat.le_of_ble_eq_true rfl) (Nat.le_of_ble_eq_true rfl) ?_
  refine va_putF (D := (dC, dI)) (ci := 11) (v := .ref q116) (ty := (.array .long)) (C := RX11) (T := TX11) (N := 35) hx hb hg inG11 tyX11 tyX11_ok nmX11 hown hK.1 hP hD hS 0 rfl rfl 23 (Nat.le_of_ble_eq_true rfl) (hg _ wt_901) (fun _ h9 => h9) rfl hin rfl (by decide +kernel) rfl rfl (Nat.le_of_ble_eq_true rfl) dX11_init_444 (fun H locs hP hD hS => ?_)
  obtain ⟨hP, hD⟩ := va_rls (ws' := [(h0, .inr (11, [.ref q1, .int 0, .int 0, .ref q2, .int 0, .int 0, .int 0, .int 0, .int 0, .int 0, .ref q3, .int 0, .int 0, .int 0, .int 0, .int 0, .int 0, .int 0, .int 0, .ref q4, .ref q5, .ref q114, .ref q115, .ref q116, .null, .int 0, .null, .int 0, .null, .null, .null, .null, .null, .null, .int 0])), (q1, .inl (G 0, 196, .inl (fun _ => 0))), (q2, .inl (G 0, 49, .inl (fun _ => 0))), (q3, .inl (G 0, 320, .inl (fun _ => 0))), (q4, .inl (G 0, 11, .inl (upd (upd (upd (upd (upd (upd (upd (upd (upd (upd (upd (fun _ => 0) 0 0) 1 5) 2 12) 3 18) 4 23) 5 28) 6 34) 7 42) 8 46) 9 50) 10 54))), (q5, .inl (G 0, 54, .inl g112)), (q114, .inl (G 1, 10, .inr (.inl (fun _ => 0)))), (q115, .inl (G 1, 10, .inr (.inl (fun _ => 0)))), (q116, .inl (G 1, 770, .inr (.inl (fun _ => 0))))]) hP hD rfl
  refine lv_aload_n hx hb dX11_init_447 rfl (lv_at hl 0 rfl) ?_
  refine lv_bipush (v := 32) hx hb dX11_init_448 rfl ?_
  refine va_newa (atype := .int) (N' := 32) (a0 := (32, .inl (fun _ => 0))) hx hb (hg _ wt_49) rfl hK.1 hP hD hS hA (fun _ => rfl) (by decide) (by decide) (by decide) (Nat.le_of_ble_eq_true rfl) (Nat.le_of_ble_eq_true rfl) dX11_init_450 (fun q117 cA H hK9 hP hD hS => ?_)
  obtain rfl := uniA hK9 0 rfl
  obtain ⟨hP, hD⟩ := va_rls (ws' := [(h0, .inr (11, [.ref q1, .int 0, .int 0, .ref q2, .int 0, .int 0, .int 0, .int 0, .int 0, .int 0, .ref q3, .int 0, .int 0, .int 0, .int 0, .int 0, .int 0, .int 0, .int 0, .ref q4, .ref q5, .ref q114, .ref q115, .ref q116, .null, .int 0, .null, .int 0, .null, .null, .null, .null, .null, .null, .int 0])), (q1, .inl (G 0, 196, .inl (fun _ => 0))), (q2, .inl (G 0, 49, .inl (fun _ => 0))), (q3, .inl (G 0, 320, .inl (fun _ => 0))), (q4, .inl (G 0, 11, .inl (upd (upd (upd (upd (upd (upd (upd (upd (upd (upd (upd (fun _ => 0) 0 0) 1 5) 2 12) 3 18) 4 23) 5 28) 6 34) 7 42) 8 46) 9 50) 10 54))), (q5, .inl (G 0, 54, .inl g112)), (q114, .inl (G 1, 10, .inr (.inl (fun _ => 0)))), (q115, .inl (G 1, 10, .inr (.inl (fun _ => 0)))), (q116, .inl (G 1, 770, .inr (.inl (fun _ => 0)))), (q117, .inl (G 0, 32, .inl (fun _ => 0)))]) hP hD rfl
  refine W.widen (k := 9) (n := 1452) (Nat.le_of_ble_eq_true rfl) (Nat.le_of_ble_eq_true rfl) ?_
  refine va_putF (D := (dC, dI)) (ci := 11) (v := .ref q117) (ty := (.array .int)) (C := RX11) (T := TX11) (N := 35) hx hb hg inG11 tyX11 tyX11_ok nmX11 hown hK.1 hP hD hS 0 rfl rfl 24 (Nat.le_of_ble_eq_true rfl) (hg _ wt_902) (fun _ h9 => h9) rfl hin rfl (by decide +kernel) rfl rfl (Nat.le_of_ble_eq_true rfl) dX11_init_452 (fun H locs hP hD hS => ?_)
  obtain ⟨hP, hD⟩ := va_rls (ws' := [(h0, .inr (11, [.ref q1, .int 0, .int 0, .ref q2, .int 0, .int 0, .int 0, .int 0, .int 0, .int 0, .ref q3, .int 0, .int 0, .int 0, .int 0, .int 0, .int 0, .int 0, .int 0, .ref q4, .ref q5, .ref q114, .ref q115, .ref q116, .ref q117, .int 0, .null, .int 0, .null, .null, .null, .null, .null, .null, .int 0])), (q1, .inl (G 0, 196, .inl (fun _ => 0))), (q2, .inl (G 0, 49, .inl (fun _ => 0))), (q3, .inl (G 0, 320, .inl (fun _ => 0))), (q4, .inl (G 0, 11, .inl (upd (upd (upd (upd (upd (upd (upd (upd (upd (upd (upd (fun _ => 0) 0 0) 1 5) 2 12) 3 18) 4 23) 5 28) 6 34) 7 42) 8 46) 9 50) 10 54))), (q5, .inl (G 0, 54, .inl g112)), (q114, .inl (G 1, 10, .inr (.inl (fun _ => 0)))), (q115, .inl (G 1, 10, .inr (.inl (fun _ => 0)))), (q116, .inl (G 1, 770, .inr (.inl (fun _ => 0)))), (q117, .inl (G 0, 32, .inl (fun _ => 0)))]) hP hD rfl
  refine lv_aload_n hx hb dX11_init_455 rfl (lv_at hl 0 rfl) ?_
  refine lv_bipush (v := 12) hx hb dX11_init_456 rfl ?_
  refine va_newa (atype := .int) (N' := 12) (a0 := (12, .inl (fun _ => 0))) hx hb (hg _ wt_49) rfl hK.1 hP hD hS hA (fun _ => rfl) (by decide) (by decide) (by decide) (Nat.le_of_ble_eq_true rfl) (Nat.le_of_ble_eq_true rfl) dX11_init_458 (fun q118 cA H hK9 hP hD hS => ?_)
  obtain rfl := uniA hK9 0 rfl
  obtain ⟨hP, hD⟩ := va_rls (ws' := [(h0, .inr (11, [.ref q1, .int 0, .int 0, .ref q2, .int 0, .int 0, .int 0, .int 0, .int 0, .int 0, .ref q3, .int 0, .int 0, .int 0, .int 0, .int 0, .int 0, .int 0, .int 0, .ref q4, .ref q5, .ref q114, .ref q115, .ref q116, .ref q117, .int 0, .null, .int 0, .null, .null, .null, .null, .null, .null, .int 0])), (q1, .inl (G 0, 196, .inl (fun _ => 0))), (q2, .inl (G 0, 49, .inl (fun _ => 0))), (q3, .inl (G 0, 320, .inl (fun _ => 0))), (q4, .inl (G 0, 11, .inl (upd (upd (upd (upd (upd (upd (upd (upd (upd (upd (upd (fun _ => 0) 0 0) 1 5) 2 12) 3 18) 4 23) 5 28) 6 34) 7 42) 8 46) 9 50) 10 54))), (q5, .inl (G 0, 54, .inl g112)), (q114, .inl (G 1, 10, .inr (.inl (fun _ => 0)))), (q115, .inl (G 1, 10, .inr (.inl (fun _ => 0)))), (q116, .inl (G 1, 770, .inr (.inl (fun _ => 0)))), (q117, .inl (G 0, 32, .inl (fun _ => 0))), (q118, .inl (G 0, 12, .inl (fun _ => 0)))]) hP hD rfl
  refine W.widen (k := 10) (n := 1464) (Nat.le_of_ble_eq_true rfl) (Nat.le_of_ble_eq_true rfl) ?_
  refine va_putF (D := (dC, dI)) (ci := 11) (v := .ref q118) (ty := (.array .int)) (C := RX11) (T := TX11) (N := 35) hx hb hg inG11 tyX11 tyX11_ok nmX11 hown hK.1 hP hD hS 0 rfl rfl 26 (Nat.le_of_ble_eq_true rfl) (hg _ wt_904) (fun _ h9 => h9) rfl hin rfl (by decide +kernel) rfl rfl (Nat.le_of_ble_eq_true rfl) dX11_init_460 (fun H locs hP hD hS => ?_)
  obtain ⟨hP, hD⟩ := va_rls (ws' := [(h0, .inr (11, [.ref q1, .int 0, .int 0, .ref q2, .int 0, .int 0, .int 0, .int 0, .int 0, .int 0, .ref q3, .int 0, .int 0, .int 0, .int 0, .int 0, .int 0, .int 0, .int 0, .ref q4, .ref q5, .ref q114, .ref q115, .ref q116, .ref q117, .int 0, .ref q118, .int 0, .null, .null, .null, .null, .null, .null, .int 0])), (q1, .inl (G 0, 196, .inl (fun _ => 0))), (q2, .inl (G 0, 49, .inl (fun _ => 0))), (q3, .inl (G 0, 320, .inl (fun _ => 0))), (q4, .inl (G 0, 11, .inl (upd (upd (upd (upd (upd (upd (upd (upd (upd (upd (upd (fun _ => 0) 0 0) 1 5) 2 12) 3 18) 4 23) 5 28) 6 34) 7 42) 8 46) 9 50) 10 54))), (q5, .inl (G 0, 54, .inl g112)), (q114, .inl (G 1, 10, .inr (.inl (fun _ => 0)))), (q115, .inl (G 1, 10, .inr (.inl (fun _ => 0)))), (q116, .inl (G 1, 770, .inr (.inl (fun _ => 0)))), (q117, .inl (G 0, 32, .inl (fun _ => 0))), (q118, .inl (G 0, 12, .inl (fun _ => 0)))]) hP hD rfl
  refine lv_aload_n hx hb dX11_init_463 rfl (lv_at hl 0 rfl) ?_
  refine lv_bipush (v := 110) hx hb dX11_init_464 rfl ?_
  refine va_newa (atype := .int) (N' := 110) (a0 := (110, .inl (fun _ => 0))) hx hb (hg _ wt_49) rfl hK.1 hP hD hS hA (fun _ => rfl) (by decide) (by decide) (by decide) (Nat.le_of_ble_eq_true rfl) (Nat.le_of_ble_eq_true rfl) dX11_init_466 (fun q119 cA H hK9 hP hD hS => ?_)
  obtain rfl := uniA hK9 0 rfl
  obtain ⟨hP, hD⟩ := va_rls (ws' := [(h0, .inr (11, [.ref q1, .int 0, .int 0, .ref q2, .int 0, .int 0, .int 0, .int 0, .int 0, .int 0, .ref q3, .int 0, .int 0, .int 0, .int 0, .int 0, .int 0, .int 0, .int 0, .ref q4, .ref q5, .ref q114, .ref q115, .ref q116, .ref q117, .int 0, .ref q118, .int 0, .null, .null, .null, .null, .null, .null, .int 0])), (q1, .inl (G 0, 196, .inl (fun _ => 0))), (q2, .inl (G 0, 49, .inl (fun _ => 0))), (q3, .inl (G 0, 320, .inl (fun _ => 0))), (q4, .inl (G 0, 11, .inl (upd (upd (upd (upd (upd (upd (upd (upd (upd (upd (upd (fun _ => 0) 0 0) 1 5) 2 12) 3 18) 4 23) 5 28) 6 34) 7 42) 8 46) 9 50) 10 54))), (q5, .inl (G 0, 54, .inl g112)), (q114, .inl (G 1, 10, .inr (.inl (fun _ => 0)))), (q115, .inl (G 1, 10, .inr (.inl (fun _ => 0)))), (q116, .inl (G 1, 770, .inr (.inl (fun _ => 0)))), (q117, .inl (G 0, 32, .inl (fun _ => 0))), (q118, .inl (G 0, 12, .inl (fun _ => 0))), (q119, .inl (G 0, 110, .inl (fun _ => 0)))]) hP hD rfl
  refine W.widen (k := 11) (n := 1574) (Nat.le_of_ble_eq_true rfl) (Nat.le_of_ble_eq_true rfl) ?_
  refine va_putF (D := (dC, dI)) (ci := 11) (v := .ref q119) (ty := (.array .int)) (C := RX11) (T := TX11) (N := 35) hx hb hg inG11 tyX11 tyX11_ok nmX11 hown hK.1 hP hD hS 0 rfl rfl 28 (Nat.le_of_ble_eq_true rfl) (hg _ wt_906) (fun _ h9 => h9) rfl hin rfl (by decide +kernel) rfl rfl (Nat.le_of_ble_eq_true rfl) dX11_init_468 (fun H locs hP hD hS => ?_)
  obtain ⟨hP, hD⟩ := va_rls (ws' := [(h0, .inr (11, [.ref q1, .int 0, .int 0, .ref q2, .int 0, .int 0, .int 0, .int 0, .int 0, .int 0, .ref q3, .int 0, .int 0, .int 0, .int 0, .int 0, .int 0, .int 0, .int 0, .ref q4, .ref q5, .ref q114, .ref q115, .ref q116, .ref q117, .int 0, .ref q118, .int 0, .ref q119, .null, .null, .null, .null, .null, .int 0])), (q1, .inl (G 0, 196, .inl (fun _ => 0))), (q2, .inl (G 0, 49, .inl (fun _ => 0))), (q3, .inl (G 0, 320, .inl (fun _ => 0))), (q4, .inl (G 0, 11, .inl (upd (upd (upd (upd (upd (upd (upd (upd (upd (upd (upd (fun _ => 0) 0 0) 1 5) 2 12) 3 18) 4 23) 5 28) 6 34) 7 42) 8 46) 9 50) 10 54))), (q5, .inl (G 0, 54, .inl g112)), (q114, .inl (G 1, 10, .inr (.inl (fun _ => 0)))), (q115, .inl (G 1, 10, .inr (.inl (fun _ => 0)))), (q116, .inl (G 1, 770, .inr (.inl (fun _ => 0)))), (q117, .inl (G 0, 32, .inl (fun _ => 0))), (q118, .inl (G 0, 12, .inl (fun _ => 0))), (q119, .inl (G 0, 110, .inl (fun _ => 0)))]) hP hD rfl
  refine lv_aload_n hx hb dX11_init_471 rfl (lv_at hl 0 rfl) ?_
  refine lv_bipush (v := 110) hx hb dX11_init_472 rfl ?_
  refine va_newa (atype := .int) (N' := 110) (a0 := (110, .inl (fun _ => 0))) hx hb (hg _ wt_49) rfl hK.1 hP hD hS hA (fun _ => rfl) (by decide) (by decide) (by decide) (Nat.le_of_ble_eq_true rfl) (Nat.le_of_ble_eq_true rfl) dX11_init_474 (fun q120 cA H hK9 hP hD hS => ?_)
  obtain rfl := uniA hK9 0 rfl
  obtain ⟨hP, hD⟩ := va_rls (ws' := [(h0, .inr (11, [.ref q1, .int 0, .int 0, .ref q2, .int 0, .int 0, .int 0, .int 0, .int 0, .int 0, .ref q3, .int 0, .int 0, .int 0, .int 0, .int 0, .int 0, .int 0, .int 0, .ref q4, .ref q5, .ref q114, .ref q115, .ref q116, .ref q117, .int 0, .ref q118, .int 0, .ref q119, .null, .null, .null, .null, .null, .int 0])), (q1, .inl (G 0, 196, .inl (fun _ => 0))), (q2, .inl (G 0, 49, .inl (fun _ => 0))), (q3, .inl (G 0, 320, .inl (fun _ => 0))), (q4, .inl (G 0, 11, .inl (upd (upd (upd (upd (upd (upd (upd (upd (upd (upd (upd (fun _ => 0) 0 0) 1 5) 2 12) 3 18) 4 23) 5 28) 6 34) 7 42) 8 46) 9 50) 10 54))), (q5, .inl (G 0, 54, .inl g112)), (q114, .inl (G 1, 10, .inr (.inl (fun _ => 0)))), (q115, .inl (G 1, 10, .inr (.inl (fun _ => 0)))), (q116, .inl (G 1, 770, .inr (.inl (fun _ => 0)))), (q117, .inl (G 0, 32, .inl (fun _ => 0))), (q118, .inl (G 0, 12, .inl (fun _ => 0))), (q119, .inl (G 0, 110, .inl (fun _ => 0))), (q120, .inl (G 0, 110, .inl (fun _ => 0)))]) hP hD rfl
  refine W.widen (k := 12) (n := 1684) (Nat.le_of_ble_eq_true rfl) (Nat.le_of_ble_eq_true rfl) ?_
  refine va_putF (D := (dC, dI)) (ci := 11) (v := .ref q120) (ty := (.array .int)) (C := RX11) (T := TX11) (N := 35) hx hb hg inG11 tyX11 tyX11_ok nmX11 hown hK.1 hP hD hS 0 rfl rfl 29 (Nat.le_of_ble_eq_true rfl) (hg _ wt_907) (fun _ h9 => h9) rfl hin rfl (by decide +kernel) rfl rfl (Nat.le_of_ble_eq_true rfl) dX11_init_476 (fun H locs hP hD hS => ?_)
  obtain ⟨hP, hD⟩ := va_rls (ws' := [(h0, .inr (11, [.ref q1, .int 0, .int 0, .ref q2, .int 0, .int 0, .int 0, .int 0, .int 0, .int 0, .ref q3, .int 0, .int 0, .int 0, .int 0, .int 0, .int 0, .int 0, .int 0, .ref q4, .ref q5, .ref q114, .ref q115, .ref q116, .ref q117, .int 0, .ref q118, .int 0, .ref q119, .ref q120, .null, .null, .null, .null, .int 0])), (q1, .inl (G 0, 196, .inl (fun _ => 0))), (q2, .inl (G 0, 49, .inl (fun _ => 0))), (q3, .inl (G 0, 320, .inl (fun _ => 0))), (q4, .inl (G 0, 11, .inl (upd (upd (upd (upd (upd (upd (upd (upd (upd (upd (upd (fun _ => 0) 0 0) 1 5) 2 12) 3 18) 4 23) 5 28) 6 34) 7 42) 8 46) 9 50) 10 54))), (q5, .inl (G 0, 54, .inl g112)), (q114, .inl (G 1, 10, .inr (.inl (fun _ => 0)))), (q115, .inl (G 1, 10, .inr (.inl (fun _ => 0)))), (q116, .inl (G 1, 770, .inr (.inl (fun _ => 0)))), (q117, .inl (G 0, 32, .inl (fun _ => 0))), (q118, .inl (G 0, 12, .inl (fun _ => 0))), (q119, .inl (G 0, 110, .inl (fun _ => 0))), (q120, .inl (G 0, 110, .inl (fun _ => 0)))]) hP hD rfl
  refine lv_aload_n hx hb dX11_init_479 rfl (lv_at hl 0 rfl) ?_
  refine lv_iconst (v := 2) hx hb dX11_init_480 rfl ?_
  refine va_newa (atype := .boolean) (N' := 2) (a0 := (2, .inl (fun _ => 0))) hx hb (hg _ wt_168) rfl hK.1 hP hD hS hA (fun _ => rfl) (by decide) (by decide) (by decide) (Nat.le_of_ble_eq_true rfl) (Nat.le_of_ble_eq_true rfl) dX11_init_481 (fun q121 cA H hK9 hP hD hS => ?_)
  obtain rfl := uniA hK9 2 rfl
  obtain ⟨hP, hD⟩ := va_rls (ws' := [(h0, .inr (11, [.ref q1, .int 0, .int 0, .ref q2, .int 0, .int 0, .int 0, .int 0, .int 0, .int 0, .ref q3, .int 0, .int 0, .int 0, .int 0, .int 0, .int 0, .int 0, .int 0, .ref q4, .ref q5, .ref q114, .ref q115, .ref q116, .ref q117, .int 0, .ref q118, .int 0, .ref q119, .ref q120, .null, .null, .null, .null, .int 0])), (q1, .inl (G 0, 196, .inl (fun _ => 0))), (q2, .inl (G 0, 49, .inl (fun _ => 0))), (q3, .inl (G 0, 320, .inl (fun _ => 0))), (q4, .inl (G 0, 11, .inl (upd (upd (upd (upd (upd (upd (upd (upd (upd (upd (upd (fun _ => 0) 0 0) 1 5) 2 12) 3 18) 4 23) 5 28) 6 34) 7 42) 8 46) 9 50) 10 54))), (q5, .inl (G 0, 54, .inl g112)), (q114, .inl (G 1, 10, .inr (.inl (fun _ => 0)))), (q115, .inl (G 1, 10, .inr (.inl (fun _ => 0)))), (q116, .inl (G 1, 770, .inr (.inl (fun _ => 0)))), (q117, .inl (G 0, 32, .inl (fun _ => 0))), (q118, .inl (G 0, 12, .inl (fun _ => 0))), (q119, .inl (G 0, 110, .inl (fun _ => 0))), (q120, .inl (G 0, 110, .inl (fun _ => 0))), (q121, .inl (G 2, 2, .inl (fun _ => 0)))]) hP hD rfl
  refine W.widen (k := 13) (n := 1686) (Nat.le_of_ble_eq_true rfl) (Nat.le_of_ble_eq_true rfl) ?_
  refine va_putF (D := (dC, dI)) (ci := 11) (v := .ref q121) (ty := (.array .boolean)) (C := RX11) (T := TX11) (N := 35) hx hb hg inG11 tyX11 tyX11_ok nmX11 hown hK.1 hP hD hS 0 rfl rfl 30 (Nat.le_of_ble_eq_true rfl) (hg _ wt_908) (fun _ h9 => h9) rfl hin rfl (by decide +kernel) rfl rfl (Nat.le_of_ble_eq_true rfl) dX11_init_483 (fun H locs hP hD hS => ?_)
  obtain ⟨hP, hD⟩ := va_rls (ws' := [(h0, .inr (11, [.ref q1, .int 0, .int 0, .ref q2, .int 0, .int 0, .int 0, .int 0, .int 0, .int 0, .ref q3, .int 0, .int 0, .int 0, .int 0, .int 0, .int 0, .int 0, .int 0, .ref q4, .ref q5, .ref q114, .ref q115, .ref q116, .ref q117, .int 0, .ref q118, .int 0, .ref q119, .ref q120, .ref q121, .null, .null, .null, .int 0])), (q1, .inl (G 0, 196, .inl (fun _ => 0))), (q2, .inl (G 0, 49, .inl (fun _ => 0))), (q3, .inl (G 0, 320, .inl (fun _ => 0))), (q4, .inl (G 0, 11, .inl (upd (upd (upd (upd (upd (upd (upd (upd (upd (upd (upd (fun _ => 0) 0 0) 1 5) 2 12) 3 18) 4 23) 5 28) 6 34) 7 42) 8 46) 9 50) 10 54))), (q5, .inl (G 0, 54, .inl g112)), (q114, .inl (G 1, 10, .inr (.inl (fun _ => 0)))), (q115, .inl (G 1, 10, .inr (.inl (fun _ => 0)))), (q116, .inl (G 1, 770, .inr (.inl (fun _ => 0)))), (q117, .inl (G 0, 32, .inl (fun _ => 0))), (q118, .inl (G 0, 12, .inl (fun _ => 0))), (q119, .inl (G 0, 110, .inl (fun _ => 0))), (q120, .inl (G 0, 110, .inl (fun _ => 0))), (q121, .inl (G 2, 2, .inl (fun _ => 0)))]) hP hD rfl
  refine lv_aload_n hx hb dX11_init_486 rfl (lv_at hl 0 rfl) ?_
  refine lv_iconst (v := 4) hx hb dX11_init_487 rfl ?_
  refine va_newa (atype := .int) (N' := 4) (a0 := (4, .inl (fun _ => 0))) hx hb (hg _ wt_49) rfl hK.1 hP hD hS hA (fun _ => rfl) (by decide) (by decide) (by decide) (Nat.le_of_ble_eq_true rfl) (Nat.le_of_ble_eq_true rfl) dX11_init_488 (fun q122 cA H hK9 hP hD hS => ?_)
  obtain rfl := uniA hK9 0 rfl
  obtain ⟨hP, hD⟩ := va_rls (ws' := [(h0, .inr (11, [.ref q1, .int 0, .int 0, .ref q2, .int 0, .int 0, .int 0, .int 0, .int 0, .int 0, .ref q3, .int 0, .int 0, .int 0, .int 0, .int 0, .int 0, .int 0, .int 0, .ref q4, .ref q5, .ref q114, .ref q115, .ref q116, .ref q117, .int 0, .ref q118, .int 0, .ref q119, .ref q120, .ref q121, .null, .null, .null, .int 0])), (q1, .inl (G 0, 196, .inl (fun _ => 0))), (q2, .inl (G 0, 49, .inl (fun _ => 0))), (q3, .inl (G 0, 320, .inl (fun _ => 0))), (q4, .inl (G 0, 11, .inl (upd (upd (upd (upd (upd (upd (upd (upd (upd (upd (upd (fun _ => 0) 0 0) 1 5) 2 12) 3 18) 4 23) 5 28) 6 34) 7 42) 8 46) 9 50) 10 54))), (q5, .inl (G 0, 54, .inl g112)), (q114, .inl (G 1, 10, .inr (.inl (fun _ => 0)))), (q115, .inl (G 1, 10, .inr (.inl (fun _ => 0)))), (q116, .inl (G 1, 770, .inr (.inl (fun _ => 0)))), (q117, .inl (G 0, 32, .inl (fun _ => 0))), (q118, .inl (G 0, 12, .inl (fun _ => 0))), (q119, .inl (G 0, 110, .inl (fun _ => 0))), (q120, .inl (G 0, 110, .inl (fun _ => 0))), (q121, .inl (G 2, 2, .inl (fun _ => 0))), (q122, .inl (G 0, 4, .inl (fun _ => 0)))]) hP hD rfl
  refine W.widen (k := 14) (n := 1690) (Nat.le_of_ble_eq_true rfl) (Nat.le_of_ble_eq_true rfl) ?_
  refine lv_dup hx hb dX11_init_490 rfl ?_
  refine lv_iconst (v := 0) hx hb dX11_init_491 rfl ?_
  refine lv_bipush (v := (-4)) hx hb dX11_init_492 rfl ?_
  refine va_iast hx hb hK.1 hP hD hS 14 0 rfl rfl (vp_in_iff.mpr ⟨by decide, by decide⟩) dX11_init_494 (fun H locs hP hD hS => ?_)
  obtain ⟨hP, hD⟩ := va_rls (ws' := [(h0, .inr (11, [.ref q1, .int 0, .int 0, .ref q2, .int 0, .int 0, .int 0, .int 0, .int 0, .int 0, .ref q3, .int 0, .int 0, .int 0, .int 0, .int 0, .int 0, .int 0, .int 0, .ref q4, .ref q5, .ref q114, .ref q115, .ref q116, .ref q117, .int 0, .ref q118, .int 0, .ref q119, .ref q120, .ref q121, .null, .null, .null, .int 0])), (q1, .inl (G 0, 196, .inl (fun _ => 0))), (q2, .inl (G 0, 49, .inl (fun _ => 0))), (q3, .inl (G 0, 320, .inl (fun _ => 0))), (q4, .inl (G 0, 11, .inl (upd (upd (upd (upd (upd (upd (upd (upd (upd (upd (upd (fun _ => 0) 0 0) 1 5) 2 12) 3 18) 4 23) 5 28) 6 34) 7 42) 8 46) 9 50) 10 54))), (q5, .inl (G 0, 54, .inl g112)), (q114, .inl (G 1, 10, .inr (.inl (fun _ => 0)))), (q115, .inl (G 1, 10, .inr (.inl (fun _ => 0)))), (q116, .inl (G 1, 770, .inr (.inl (fun _ => 0)))), (q117, .inl (G 0, 32, .inl (fun _ => 0))), (q118, .inl (G 0, 12, .inl (fun _ => 0))), (q119, .inl (G 0, 110, .inl (fun _ => 0))), (q120, .inl (G 0, 110, .inl (fun _ => 0))), (q121, .inl (G 2, 2, .inl (fun _ => 0))), (q122, .inl (G 0, 4, .inl (upd (fun _ => 0) 0 (-4))))]) hP hD rfl
  refine lv_dup hx hb dX11_init_495 rfl ?_
  refine lv_iconst (v := 1) hx hb dX11_init_496 rfl ?_
  refine lv_bipush (v := (-4)) hx hb dX11_init_497 rfl ?_
  refine va_iast hx hb hK.1 hP hD hS 14 0 rfl rfl (vp_in_iff.mpr ⟨by decide, by decide⟩) dX11_init_499 (fun H locs hP hD hS => ?_)
  obtain ⟨hP, hD⟩ := va_rls (ws' := [(h0, .inr (11, [.ref q1, .int 0, .int 0, .ref q2, .int 0, .int 0, .int 0, .int 0, .int 0, .int 0, .ref q3, .int 0, .int 0, .int 0, .int 0, .int 0, .int 0, .int 0, .int 0, .ref q4, .ref q5, .ref q114, .ref q115, .ref q116, .ref q117, .int 0, .ref q118, .int 0, .ref q119, .ref q120, .ref q121, .null, .null, .null, .int 0])), (q1, .inl (G 0, 196, .inl (fun _ => 0))), (q2, .inl (G 0, 49, .inl (fun _ => 0))), (q3, .inl (G 0, 320, .inl (fun _ => 0))), (q4, .inl (G 0, 11, .inl (upd (upd (upd (upd (upd (upd (upd (upd (upd (upd (upd (fun _ => 0) 0 0) 1 5) 2 12) 3 18) 4 23) 5 28) 6 34) 7 42) 8 46) 9 50) 10 54))), (q5, .inl (G 0, 54, .inl g112)), (q114, .inl (G 1, 10, .inr (.inl (fun _ => 0)))), (q115, .inl (G 1, 10, .inr (.inl (fun _ => 0)))), (q116, .inl (G 1, 770, .inr (.inl (fun _ => 0)))), (q117, .inl (G 0, 32, .inl (fun _ => 0))), (q118, .inl (G 0, 12, .inl (fun _ => 0))), (q119, .inl (G 0, 110, .inl (fun _ => 0))), (q120, .inl (G 0, 110, .inl (fun _ => 0))), (q121, .inl (G 2, 2, .inl (fun _ => 0))), (q122, .inl (G 0, 4, .inl (upd (upd (fun _ => 0) 0 (-4)) 1 (-4))))]) hP hD rfl
  refine lv_dup hx hb dX11_init_500 rfl ?_
  refine lv_iconst (v := 2) hx hb dX11_init_501 rfl ?_
  refine lv_bipush (v := (-4)) hx hb dX11_init_502 rfl ?_
  refine va_iast hx hb hK.1 hP hD hS 14 0 rfl rfl (vp_in_iff.mpr ⟨by decide, by decide⟩) dX11_init_504 (fun H locs hP hD hS => ?_)
  obtain ⟨hP, hD⟩ := va_rls (ws' := [(h0, .inr (11, [.ref q1, .int 0, .int 0, .ref q2, .int 0, .int 0, .int 0, .int 0, .int 0, .int 0, .ref q3, .int 0, .int 0, .int 0, .int 0, .int 0, .int 0, .int 0, .int 0, .ref q4, .ref q5, .ref q114, .ref q115, .ref q116, .ref q117, .int 0, .ref q118, .int 0, .ref q119, .ref q120, .ref q121, .null, .null, .null, .int 0])), (q1, .inl (G 0, 196, .inl (fun _ => 0))), (q2, .inl (G 0, 49, .inl (fun _ => 0))), (q3, .inl (G 0, 320, .inl (fun _ => 0))), (q4, .inl (G 0, 11, .inl (upd (upd (upd (upd (upd (upd (upd (upd (upd (upd (upd (fun _ => 0) 0 0) 1 5) 2 12) 3 18) 4 23) 5 28) 6 34) 7 42) 8 46) 9 50) 10 54))), (q5, .inl (G 0, 54, .inl g112)), (q114, .inl (G 1, 10, .inr (.inl (fun _ => 0)))), (q115, .inl (G 1, 10, .inr (.inl (fun _ => 0)))), (q116, .inl (G 1, 770, .inr (.inl (fun _ => 0)))), (q117, .inl (G 0, 32, .inl (fun _ => 0))), (q118, .inl (G 0, 12, .inl (fun _ => 0))), (q119, .inl (G 0, 110, .inl (fun _ => 0))), (q120, .inl (G 0, 110, .inl (fun _ => 0))), (q121, .inl (G 2, 2, .inl (fun _ => 0))), (q122, .inl (G 0, 4, .inl (upd (upd (upd (fun _ => 0) 0 (-4)) 1 (-4)) 2 (-4))))]) hP hD rfl
  refine lv_dup hx hb dX11_init_505 rfl ?_
  refine lv_iconst (v := 3) hx hb dX11_init_506 rfl ?_
  refine lv_bipush (v := (-4)) hx hb dX11_init_507 rfl ?_
  refine va_iast hx hb hK.1 hP hD hS 14 0 rfl rfl (vp_in_iff.mpr ⟨by decide, by decide⟩) dX11_init_509 (fun H locs hP hD hS => ?_)
  obtain ⟨hP, hD⟩ := va_rls (ws' := [(h0, .inr (11, [.ref q1, .int 0, .int 0, .ref q2, .int 0, .int 0, .int 0, .int 0, .int 0, .int 0, .ref q3, .int 0, .int 0, .int 0, .int 0, .int 0, .int 0, .int 0, .int 0, .ref q4, .ref q5, .ref q114, .ref q115, .ref q116, .ref q117, .int 0, .ref q118, .int 0, .ref q119, .ref q120, .ref q121, .null, .null, .null, .int 0])), (q1, .inl (G 0, 196, .inl (fun _ => 0))), (q2, .inl (G 0, 49, .inl (fun _ => 0))), (q3, .inl (G 0, 320, .inl (fun _ => 0))), (q4, .inl (G 0, 11, .inl (upd (upd (upd (upd (upd (upd (upd (upd (upd (upd (upd (fun _ => 0) 0 0) 1 5) 2 12) 3 18) 4 23) 5 28) 6 34) 7 42) 8 46) 9 50) 10 54))), (q5, .inl (G 0, 54, .inl g112)), (q114, .inl (G 1, 10, .inr (.inl (fun _ => 0)))), (q115, .inl (G 1, 10, .inr (.inl (fun _ => 0)))), (q116, .inl (G 1, 770, .inr (.inl (fun _ => 0)))), (q117, .inl (G 0, 32, .inl (fun _ => 0))), (q118, .inl (G 0, 12, .inl (fun _ => 0))), (q119, .inl (G 0, 110, .inl (fun _ => 0))), (q120, .inl (G 0, 110, .inl (fun _ => 0))), (q121, .inl (G 2, 2, .inl (fun _ => 0))), (q122, .inl (G 0, 4, .inl (upd (upd (upd (upd (fun _ => 0) 0 (-4)) 1 (-4)) 2 (-4)) 3 (-4))))]) hP hD rfl
  refine va_putF (D := (dC, dI)) (ci := 11) (v := .ref q122) (ty := (.array .int)) (C := RX11) (T := TX11) (N := 35) hx hb hg inG11 tyX11 tyX11_ok nmX11 hown hK.1 hP hD hS 0 rfl rfl 31 (Nat.le_of_ble_eq_true rfl) (hg _ wt_909) (fun _ h9 => h9) rfl hin rfl (by decide +kernel) rfl rfl (Nat.le_of_ble_eq_true rfl) dX11_init_510 (fun H locs hP hD hS => ?_)
  obtain ⟨hP, hD⟩ := va_rls (ws' := [(h0, .inr (11, [.ref q1, .int 0, .int 0, .ref q2, .int 0, .int 0, .int 0, .int 0, .int 0, .int 0, .ref q3, .int 0, .int 0, .int 0, .int 0, .int 0, .int 0, .int 0, .int 0, .ref q4, .ref q5, .ref q114, .ref q115, .ref q116, .ref q117, .int 0, .ref q118, .int 0, .ref q119, .ref q120, .ref q121, .ref q122, .null, .null, .int 0])), (q1, .inl (G 0, 196, .inl (fun _ => 0))), (q2, .inl (G 0, 49, .inl (fun _ => 0))), (q3, .inl (G 0, 320, .inl (fun _ => 0))), (q4, .inl (G 0, 11, .inl (upd (upd (upd (upd (upd (upd (upd (upd (upd (upd (upd (fun _ => 0) 0 0) 1 5) 2 12) 3 18) 4 23) 5 28) 6 34) 7 42) 8 46) 9 50) 10 54))), (q5, .inl (G 0, 54, .inl g112)), (q114, .inl (G 1, 10, .inr (.inl (fun _ => 0)))), (q115, .inl (G 1, 10, .inr (.inl (fun _ => 0)))), (q116, .inl (G 1, 770, .inr (.inl (fun _ => 0)))), (q117, .inl (G 0, 32, .inl (fun _ => 0))), (q118, .inl (G 0, 12, .inl (fun _ => 0))), (q119, .inl (G 0, 110, .inl (fun _ => 0))), (q120, .inl (G 0, 110, .inl (fun _ => 0))), (q121, .inl (G 2, 2, .inl (fun _ => 0))), (q122, .inl (G 0, 4, .inl (upd (upd (upd (upd (fun _ => 0) 0 (-4)) 1 (-4)) 2 (-4)) 3 (-4))))]) hP hD rfl
  refine lv_aload_n hx hb dX11_init_513 rfl (lv_at hl 0 rfl) ?_
  refine lv_iconst (v := 4) hx hb dX11_init_514 rfl ?_
  refine va_newa (atype := .int) (N' := 4) (a0 := (4, .inl (fun _ => 0))) hx hb (hg _ wt_49) rfl hK.1 hP hD hS hA (fun _ => rfl) (by decide) (by decide) (by decide) (Nat.le_of_ble_eq_true rfl) (Nat.le_of_ble_eq_true rfl) dX11_init_515 (fun q123 cA H hK9 hP hD hS => ?_)
  obtain rfl := uniA hK9 0 rfl
  obtain ⟨hP, hD⟩ := va_rls (ws' := [(h0, .inr (11, [.ref q1, .int 0, .int 0, .ref q2, .int 0, .int 0, .int 0, .int 0, .int 0, .int 0, .ref q3, .int 0, .int 0, .int 0, .int 0, .int 0, .int 0, .int 0, .int 0, .ref q4, .ref q5, .ref q114, .ref q115, .ref q116, .ref q117, .int 0, .ref q118, .int 0, .ref q119, .ref q120, .ref q121, .ref q122, .null, .null, .int 0])), (q1, .inl (G 0, 196, .inl (fun _ => 0))), (q2, .inl (G 0, 49, .inl (fun _ => 0))), (q3, .inl (G 0, 320, .inl (fun _ => 0))), (q4, .inl (G 0, 11, .inl (upd (upd (upd (upd (upd (upd (upd (upd (upd (upd (upd (fun _ => 0) 0 0) 1 5) 2 12) 3 18) 4 23) 5 28) 6 34) 7 42) 8 46) 9 50) 10 54))), (q5, .inl (G 0, 54, .inl g112)), (q114, .inl (G 1, 10, .inr (.inl (fun _ => 0)))), (q115, .inl (G 1, 10, .inr (.inl (fun _ => 0)))), (q116, .inl (G 1, 770, .inr (.inl (fun _ => 0)))), (q117, .inl (G 0, 32, .inl (fun _ => 0))), (q118, .inl (G 0, 12, .inl (fun _ => 0))), (q119, .inl (G 0, 110, .inl (fun _ => 0))), (q120, .inl (G 0, 110, .inl (fun _ => 0))), (q121, .inl (G 2, 2, .inl (fun _ => 0))), (q122, .inl (G 0, 4, .inl (upd (upd (upd (upd (fun _ => 0) 0 (-4)) 1 (-4)) 2 (-4)) 3 (-4)))), (q123, .inl (G 0, 4, .inl (fun _ => 0)))]) hP hD rfl
  refine W.widen (k := 15) (n := 1694) (Nat.le_of_ble_eq_true rfl) (Nat.le_of_ble_eq_true rfl) ?_
  refine va_putF (D := (dC, dI)) (ci := 11) (v := .ref q123) (ty := (.array .int)) (C := RX11) (T := TX11) (N := 35) hx hb hg inG11 tyX11 tyX11_ok nmX11 hown hK.1 hP hD hS 0 rfl rfl 32 (Nat.le_of_ble_eq_true rfl) (hg _ wt_910) (fun _ h9 => h9) rfl hin rfl (by decide +kernel) rfl rfl (Nat.le_of_ble_eq_true rfl) dX11_init_517 (fun H locs hP hD hS => ?_)
  obtain ⟨hP, hD⟩ := va_rls (ws' := [(h0, .inr (11, [.ref q1, .int 0, .int 0, .ref q2, .int 0, .int 0, .int 0, .int 0, .int 0, .int 0, .ref q3, .int 0, .int 0, .int 0, .int 0, .int 0, .int 0, .int 0, .int 0, .ref q4, .ref q5, .ref q114, .ref q115, .ref q116, .ref q117, .int 0, .ref q118, .int 0, .ref q119, .ref q120, .ref q121, .ref q122, .ref q123, .null, .int 0])), (q1, .inl (G 0, 196, .inl (fun _ => 0))), (q2, .inl (G 0, 49, .inl (fun _ => 0))), (q3, .inl (G 0, 320, .inl (fun _ => 0))), (q4, .inl (G 0, 11, .inl (upd (upd (upd (upd (upd (upd (upd (upd (upd (upd (upd (fun _ => 0) 0 0) 1 5) 2 12) 3 18) 4 23) 5 28) 6 34) 7 42) 8 46) 9 50) 10 54))), (q5, .inl (G 0, 54, .inl g112)), (q114, .inl (G 1, 10, .inr (.inl (fun _ => 0)))), (q115, .inl (G 1, 10, .inr (.inl (fun _ => 0)))), (q116, .inl (G 1, 770, .inr (.inl (fun _ => 0)))), (q117, .inl (G 0, 32, .inl (fun _ => 0))), (q118, .inl (G 0, 12, .inl (fun _ => 0))), (q119, .inl (G 0, 110, .inl (fun _ => 0))), (q120, .inl (G 0, 110, .inl (fun _ => 0))), (q121, .inl (G 2, 2, .inl (fun _ => 0))), (q122, .inl (G 0, 4, .inl (upd (upd (upd (upd (fun _ => 0) 0 (-4)) 1 (-4)) 2 (-4)) 3 (-4)))), (q123, .inl (G 0, 4, .inl (fun _ => 0)))]) hP hD rfl
  refine lv_aload_n hx hb dX11_init_520 rfl (lv_at hl 0 rfl) ?_
  refine lv_sipush (v := 160) hx hb dX11_init_521 rfl ?_
  refine va_newa (atype := .int) (N' := 160) (a0 := (160, .inl (fun _ => 0))) hx hb (hg _ wt_49) rfl hK.1 hP hD hS hA (fun _ => rfl) (by decide) (by decide) (by decide) (Nat.le_of_ble_eq_true rfl) (Nat.le_of_ble_eq_true rfl) dX11_init_524 (fun q124 cA H hK9 hP hD hS => ?_)
  obtain rfl := uniA hK9 0 rfl
  obtain ⟨hP, hD⟩ := va_rls (ws' := [(h0, .inr (11, [.ref q1, .int 0, .int 0, .ref q2, .int 0, .int 0, .int 0, .int 0, .int 0, .int 0, .ref q3, .int 0, .int 0, .int 0, .int 0, .int 0, .int 0, .int 0, .int 0, .ref q4, .ref q5, .ref q114, .ref q115, .ref q116, .ref q117, .int 0, .ref q118, .int 0, .ref q119, .ref q120, .ref q121, .ref q122, .ref q123, .null, .int 0])), (q1, .inl (G 0, 196, .inl (fun _ => 0))), (q2, .inl (G 0, 49, .inl (fun _ => 0))), (q3, .inl (G 0, 320, .inl (fun _ => 0))), (q4, .inl (G 0, 11, .inl (upd (upd (upd (upd (upd (upd (upd (upd (upd (upd (upd (fun _ => 0) 0 0) 1 5) 2 12) 3 18) 4 23) 5 28) 6 34) 7 42) 8 46) 9 50) 10 54))), (q5, .inl (G 0, 54, .inl g112)), (q114, .inl (G 1, 10, .inr (.inl (fun _ => 0)))), (q115, .inl (G 1, 10, .inr (.inl (fun _ => 0)))), (q116, .inl (G 1, 770, .inr (.inl (fun _ => 0)))), (q117, .inl (G 0, 32, .inl (fun _ => 0))), (q118, .inl (G 0, 12, .inl (fun _ => 0))), (q119, .inl (G 0, 110, .inl (fun _ => 0))), (q120, .inl (G 0, 110, .inl (fun _ => 0))), (q121, .inl (G 2, 2, .inl (fun _ => 0))), (q122, .inl (G 0, 4, .inl (upd (upd (upd (upd (fun _ => 0) 0 (-4)) 1 (-4)) 2 (-4)) 3 (-4)))), (q123, .inl (G 0, 4, .inl (fun _ => 0))), (q124, .inl (G 0, 160, .inl (fun _ => 0)))]) hP hD rfl
  refine W.widen (k := 16) (n := 1854) (Nat.le_of_ble_eq_true rfl) (Nat.le_of_ble_eq_true rfl) ?_
  refine va_putF (D := (dC, dI)) (ci := 11) (v := .ref q124) (ty := (.array .int)) (C := RX11) (T := TX11) (N := 35) hx hb hg inG11 tyX11 tyX11_ok nmX11 hown hK.1 hP hD hS 0 rfl rfl 33 (Nat.le_of_ble_eq_true rfl) (hg _ wt_911) (fun _ h9 => h9) rfl hin rfl (by decide +kernel) rfl rfl (Nat.le_of_ble_eq_true rfl) dX11_init_526 (fun H locs hP hD hS => ?_)
  obtain ⟨hP, hD⟩ := va_rls (ws' := [(h0, .inr (11, [.ref q1, .int 0, .int 0, .ref q2, .int 0, .int 0, .int 0, .int 0, .int 0, .int 0, .ref q3, .int 0, .int 0, .int 0, .int 0, .int 0, .int 0, .int 0, .int 0, .ref q4, .ref q5, .ref q114, .ref q115, .ref q116, .ref q117, .int 0, .ref q118, .int 0, .ref q119, .ref q120, .ref q121, .ref q122, .ref q123, .ref q124, .int 0])), (q1, .inl (G 0, 196, .inl (fun _ => 0))), (q2, .inl (G 0, 49, .inl (fun _ => 0))), (q3, .inl (G 0, 320, .inl (fun _ => 0))), (q4, .inl (G 0, 11, .inl (upd (upd (upd (upd (upd (upd (upd (upd (upd (upd (upd (fun _ => 0) 0 0) 1 5) 2 12) 3 18) 4 23) 5 28) 6 34) 7 42) 8 46) 9 50) 10 54))), (q5, .inl (G 0, 54, .inl g112)), (q114, .inl (G 1, 10, .inr (.inl (fun _ => 0)))), (q115, .inl (G 1, 10, .inr (.inl (fun _ => 0)))), (q116, .inl (G 1, 770, .inr (.inl (fun _ => 0)))), (q117, .inl (G 0, 32, .inl (fun _ => 0))), (q118, .inl (G 0, 12, .inl (fun _ => 0))), (q119, .inl (G 0, 110, .inl (fun _ => 0))), (q120, .inl (G 0, 110, .inl (fun _ => 0))), (q121, .inl (G 2, 2, .inl (fun _ => 0))), (q122, .inl (G 0, 4, .inl (upd (upd (upd (upd (fun _ => 0) 0 (-4)) 1 (-4)) 2 (-4)) 3 (-4)))), (q123, .inl (G 0, 4, .inl (fun _ => 0))), (q124, .inl (G 0, 160, .inl (fun _ => 0)))]) hP hD rfl
  have hP9 := hP
  have hD9 := hD
  refine W.widen (k := 16) (n := 1854) (Nat.le_of_ble_eq_true rfl) (Nat.le_of_ble_eq_true rfl) ?_
  exact W.vret hx hb hr (fun t ht hW => ⟨⟨((fun k => match k with | 0 => q1 | 1 => q2 | 2 => q3 | 3 => q4 | 4 => q5 | 5 => q114 | 6 => q115 | 7 => q116 | 8 => q117 | 9 => q118 | 10 => q119 | 11 => q120 | 12 => q121 | 13 => q122 | 14 => q123 | 15 => q124 | _ => 0), g112), rfl, hlt113, ⟨by rw [ht]; exact hP9, hD9⟩⟩, hS.F ht⟩) hS.2.2 dX11_init_529

/-! THE CLAIM OUT OF ONE WALK OF THE LAW'S BODY. Your part is whole_start (and what it stands on); all else here is the same for every law, but numbers. -/
def R_law : String := "AsleepPassLaw"
def lw_P (b : Addr) (xs : List Int32) (args : Array Value) (s : State) : Prop := args = #[.ref b] ∧ s.IntsAt b xs ∧ xs.length ≤ 2560 ∧ (Jvm.Cond.and given_1 narrow_1).before args s = true
def lw_Q (_ : Array Value) (s : State) (o : Outcome) (t : State) : Prop := o = .returned (some (.int 1)) ∧ Framed s o t [] 600000 7302249
def lw_Z (below : List Frame) (a : Array Value) (s : State) : State → Prop := fun t => ∃ o, t.status = .running ∧ Ended t below o ∧ lw_Q a s o t
/-- the law's own end, with 1 on the stack, nothing written that was there before, its room as the claim has it -/
theorem lw_ret {p : Program} {l : Launch} {e : Env} {s : State} {m : MethodId} {below : List Frame} {meth : Method} {c : Code} {b : Nat} (hx : p.tables.exec = Jvm.exec) (hb : c.code = code) (hr : meth.sig.returnType = ret) (hlocks : meth.locks = false) {pc : Nat} {H : Heap} {ls : Array Slot} (hdg : decode code pc = .ok (.ireturn, 1)) : W p l e room_1 s m #[Value.ref b] below meth c H [] 600000 7302249 (lw_Z below #[Value.ref b] s) (F0 m pc ls [.int 1]) := by
  intro T hT X
  obtain ⟨fs, hret, hrun, hended, hW, hframe⟩ := X.leave (v := some (.int 1)) (hlocks := hlocks) (fun h => by rw [hr] at h; cases h)
  have hmeth' : T.vm.method? m = some meth := X.method'
  refine ⟨T.setFrames fs, ?_, .returned (some (.int 1)), hrun, hended, rfl, ⟨_, rfl⟩, hW, hframe⟩
  jvm_step X.here [X.here.top, hx, hb, hdg, hmeth', hr, ret, narrow_b1]
  (try refine ⟨rfl, ?_⟩); (try refine ⟨rfl, ?_⟩)
  first | (intro acts; rw [hret _ acts rfl rfl rfl]) | rw [hret _ _ rfl rfl rfl]
  exact Steps.refl _
/-- what holds at the law's entry: the machine, the code, the tables' words (any of lw_tbl by 'hts w (by decide +kernel)'), the script of L ints xs at the cell b, what the Statement gives of the start (any of its parts by flat_of_before) -/
def lw_At (p : Program) (s : State) (m : MethodId) (meth : Method) (c : Code) (b L : Nat) (xs : Nat → Int32) : Prop :=
  p.tables.exec = Jvm.exec ∧ c.code = code ∧ meth.sig.returnType = ret ∧ c.maxLocals = 4 ∧ s.vm.findClass R_law = some m.cls ∧ (∀ w ∈ lw_tbl, w.before #[Value.ref b] s = true) ∧ va_X b L xs s s.heap ∧ b < s.heap.size ∧ meth.locks = false ∧ (Jvm.Cond.and given_1 narrow_1).before #[Value.ref b] s = true

theorem arrP {s : State} {A : Array Value} {ty : FieldType} (h : (Cond.arrayClass ty).before A s = true) : ∃ c : ClassId, ArrOfT s c ty ∧ s.vm.findClass ("[" ++ ty.toString) = some c := by
  obtain ⟨c, k, comp, h1, h2, h3⟩ := Cond.arrayClass_spec h
  exact ⟨c, fun n z => ⟨(fun q hq => by cases hq), k, h2, comp, h3⟩, h1⟩
theorem arrQ {s : State} {ty : FieldType} (h : va_AOA ty s) : ∃ c : ClassId, ArrOfT s c (.array ty) ∧ s.vm.findClass ("[" ++ (FieldType.array ty).toString) = some c := by
  obtain ⟨comp, c, k, h1, h2, h3, h4, h5⟩ := arrayOver_specB h
  exact ⟨c, fun n z => ⟨(fun q hq => by cases hq), k, h3, comp, h4⟩, h5⟩
theorem arrW {s : State} (h : va_AO "AsleepPass$Way" s) : ∃ c : ClassId, ArrOfT s c (.object "AsleepPass$Way") ∧ va_RA s c (.object "AsleepPass$Way") := by
  obtain ⟨comp, c, k, h1, h2, h3, h4, h5⟩ := Cond.arrayOver_spec h
  exact ⟨c, fun n z => ⟨(fun q hq => by cases hq), k, h3, comp, h4⟩, k, comp, h3, h4, h1, h5⟩
theorem law_K {s : State} {A : Array Value} (hts : ∀ w ∈ lw_tbl, w.before A s = true) : ∃ (dC : Nat → ClassId) (dI : Nat → Nat → Nat) (G : Nat → ClassId), KK dC dI G s := by
  have hg : ∀ w ∈ GT, w.before A s = true := fun w h => hts w (List.mem_filter.mp h).1
  have hc : ∀ k : Nat, ∃ (cc : ClassId) (i : Nat → Nat), ∀ q : vw_C, vwCl[k]? = some q → u_Kn s q.1 q.2.1 q.2.2 cc i := by
    intro k
    match k with
    | 0 => obtain ⟨a, i, h⟩ := u_known (C := RX0) (T := TX0) (N := 3) (n := 3) hg inG0 (hg _ wt_171); exact ⟨a, i, fun q hq => by cases hq; exact h⟩
    | 1 => obtain ⟨a, i, h⟩ := u_known (C := RX1) (T := TX1) (N := 3) (n := 3) hg inG1 (hg _ wt_193); exact ⟨a, i, fun q hq => by cases hq; exact h⟩
    | 2 => obtain ⟨a, i, h⟩ := u_known (C := RX2) (T := TX2) (N := 5) (n := 5) hg inG2 (hg _ wt_212); exact ⟨a, i, fun q hq => by cases hq; exact h⟩
    | 3 => obtain ⟨a, i, h⟩ := u_known (C := RX3) (T := TX3) (N := 3) (n := 3) hg inG3 (hg _ wt_235); exact ⟨a, i, fun q hq => by cases hq; exact h⟩
    | 4 => obtain ⟨a, i, h⟩ := u_known (C := RX4) (T := TX4) (N := 3) (n := 3) hg inG4 (hg _ wt_151); exact ⟨a, i, fun q hq => by cases hq; exact h⟩
    | 5 => obtain ⟨a, i, h⟩ := u_known (C := RX5) (T := TX5) (N := 12) (n := 12) hg inG5 (hg _ wt_29); exact ⟨a, i, fun q hq => by cases hq; exact h⟩
    | 6 => obtain ⟨a, i, h⟩ := u_known (C := RX6) (T := TX6) (N := 7) (n := 7) hg inG6 (hg _ wt_270); exact ⟨a, i, fun q hq => by cases hq; exact h⟩
    | 7 => obtain ⟨a, i, h⟩ := u_known (C := RX7) (T := TX7) (N := 2) (n := 2) hg inG7 (hg _ wt_35); exact ⟨a, i, fun q hq => by cases hq; exact h⟩
    | 8 => obtain ⟨a, i, h⟩ := u_known (C := RX8) (T := TX8) (N := 3) (n := 3) hg inG8 (hg _ wt_252); exact ⟨a, i, fun q hq => by cases hq; exact h⟩
    | 9 => obtain ⟨a, i, h⟩ := u_known (C := RX9) (T := TX9) (N := 9) (n := 9) hg inG9 (hg _ wt_51); exact ⟨a, i, fun q hq => by cases hq; exact h⟩
    | 10 => obtain ⟨a, i, h⟩ := u_known (C := RX10) (T := TX10) (N := 14) (n := 14) hg inG10 (hg _ wt_21); exact ⟨a, i, fun q hq => by cases hq; exact h⟩
    | 11 => obtain ⟨a, i, h⟩ := u_known (C := RX11) (T := TX11) (N := 35) (n := 35) hg inG11 (hg _ wt_873); exact ⟨a, i, fun q hq => by cases hq; exact h⟩
    | k + 12 => exact ⟨(0 : Nat), fun _ => 0, fun q hq => by simp [vwCl] at hq⟩
  have hW : va_AO "AsleepPass$Way" s := va_AO.of (A := A) (hts _ (List.mem_append_right _ (List.mem_of_getElem? (i := 149) (by decide +kernel))))
  have hL : va_AOA .long s := ((hts _ (List.mem_append_right _ (List.mem_of_getElem? (i := 177) (by decide +kernel)))) : (Cond.arrayOver (.array .long)).before A s = true)
  have hI : va_AOA .int s := ((hts _ (List.mem_append_right _ (List.mem_of_getElem? (i := 179) (by decide +kernel)))) : (Cond.arrayOver (.array .int)).before A s = true)
  obtain ⟨g0, a0, b0⟩ := arrP (hg _ wt_49)
  obtain ⟨g1, a1, b1⟩ := arrP (hg _ wt_169)
  obtain ⟨g2, a2, b2⟩ := arrP (hg _ wt_168)
  obtain ⟨g3, a3, b3⟩ := arrW hW
  obtain ⟨g4, a4, b4⟩ := arrQ hI
  obtain ⟨g5, a5, b5⟩ := arrQ hL
  refine ⟨fun k => Classical.choose (hc k), fun k => Classical.choose (Classical.choose_spec (hc k)), fun k => match k with | 0 => g0 | 1 => g1 | 2 => g2 | 3 => g3 | 4 => g4 | _ => g5, ⟨⟨fun k q hq => Classical.choose_spec (Classical.choose_spec (hc k)) q hq, fun k q hq => ?_⟩, fun w hw => va_Nw.of (nest_on (List.mem_filter.mp hw).2) (hts w (List.mem_filter.mp hw).1), hW, hI, hL⟩⟩
  match k, hq with
  | 0, hq => cases hq; exact ⟨a0, b0⟩
  | 1, hq => cases hq; exact ⟨a1, b1⟩
  | 2, hq => cases hq; exact ⟨a2, b2⟩
  | 3, hq => cases hq; exact ⟨a3, b3⟩
  | 4, hq => cases hq; exact ⟨a4, b4⟩
  | 5, hq => cases hq; exact ⟨a5, b5⟩
  | k + 6, hq => simp [tyl] at hq

def LI (dC : Nat → ClassId) (dI : Nat → Nat → Nat) (G : Nat → ClassId) (ax : Nat → Nat) (H : Heap) : Prop := ∃ (T : Nat) (Y : Nat → Int32) (fa : Int32) (W0 : Nat → Int32) (W1 : Nat → Int32) (W2 : Nat → Int32) (N : Nat) (B : Nat) (N1 : Nat) (B1 : Nat) (N2 : Nat) (B2 : Nat) (K : Nat → Int32) (S : Nat) (M : Nat) (E : Nat → Int32) (Z : Nat → Int32), X10I dC dI G ax T Y fa W0 W1 W2 N B N1 B1 N2 B2 K S M E Z H ∧ X11I dC dI G ax T Y fa W0 W1 W2 N B N1 B1 N2 B2 K S M E Z H
def lw_C (p : Program) (s : State) (m : MethodId) (c : Code) (b L : Nat) (xs : Nat → Int32) (dC : Nat → ClassId) (dI : Nat → Nat → Nat) (G : Nat → ClassId) (ax adK adV : Nat → Nat) (A : Nat → Prop) : Prop :=
  p.tables.exec = Jvm.exec ∧ c.code = code ∧ c.maxLocals = 4 ∧ s.vm.findClass RL = some m.cls ∧ (∀ w ∈ GT, w.before #[Value.ref b] s = true) ∧ va_X b L xs s s.heap ∧ b < s.heap.size ∧ ¬ A b ∧ KK dC dI G s ∧ adInj 129 ax ∧ (∀ i : Nat, i < 129 → A (ax i)) ∧ (∀ q : Nat, s.heap.size ≤ q → A q) ∧ SS adK adV A s s.heap
theorem ad_A {n lo hi : Nat} {ax : Nat → Nat} {A : Nat → Prop} {H0 H : Heap} {locs : List Loc} (hAx : ∀ i : Nat, i < n → A (ax i)) (hA : ∀ q : Nat, H0.size ≤ q → A q) (hhi : hi ≤ n) (hS : va_S A H0 H locs) : ∀ q : Nat, adX lo hi ax H.size q → A q := by
  intro q h
  rcases h with ⟨i, h1, h2, rfl⟩ | h
  · exact hAx i (by omega)
  · exact hA q (Nat.le_trans hS.1 h)
set_option maxHeartbeats 1000000 in
set_option maxRecDepth 100000 in
theorem lc_feed {p : Program} {l : Launch} {e : Env} {s : State} {m : MethodId} {below : List Frame} {meth : Method} {c : Code} {b L : Nat} {xs : Nat → Int32} {dC : Nat → ClassId} {dI : Nat → Nat → Nat} {G : Nat → ClassId} {ax adK adV : Nat → Nat} {A : Nat → Prop} {Q : State → Prop} (C1 : lw_C p s m c b L xs dC dI G ax adK adV A) {k : Nat} (hk : 5 * k + 5 ≤ L) (hL : L ≤ 2560) {H : Heap} {locs : List Loc} {ls : Array Slot} (hI : LI dC dI G ax H) (hS : va_S A s.heap H locs) (hl : lv_has ls 4 [(3, .int (nI (5 * k))), (2, .ref (ax 112)), (1, .ref (ax 0)), (0, .ref b)]) (kk : ∀ (H : Heap) (locs : List Loc), LI dC dI G ax H → va_S A s.heap H locs → W p l e room_1 s m #[Value.ref b] below meth c H locs 129 4562 Q (F0 m 1382 ls [])) : W p l e room_1 s m #[Value.ref b] below meth c H locs 129 4562 Q (F0 m 204 ls []) := by
  obtain ⟨hx, hb, hml, hown, hg, hX, hbl, hbA, hK, hi, hAx, hA, hSS⟩ := C1
  obtain ⟨T, Y, fa, W0, W1, W2, N, B, N1, B1, N2, B2, K, S, M, E, Z, hXI, hMI⟩ := hI
  refine lv_aload_n hx hb dL_law_204 rfl (lv_at hl 2 rfl) ?_
  refine lv_aload_n hx hb dL_law_205 rfl (lv_at hl 3 rfl) ?_
  refine lv_iload_n hx hb dL_law_206 rfl (lv_at hl 0 rfl) ?_
  refine lv_iconst (v := 1) hx hb dL_law_207 (by decide) ?_
  refine lv_iadd hx hb dL_law_208 ?_
  refine lv_cg (y := nI (5 * k + 1)) (by rw [show (1 : Int32) = nI 1 from rfl]; exact nI_add _ _) ?_
  refine va_sld hx hb hX hbl hbA hS (vp_in_nI (by omega) (by omega)) dL_law_209 ?_
  refine lv_cg (y := xs (5 * k + 1)) (by rw [nI_clamp (by omega)]) ?_
  refine lv_i2l (v := (xs (5 * k + 1)).toInt64) hx hb dL_law_210 rfl ?_
  refine lv_bipush (v := 32) hx hb dL_law_211 (by decide) ?_
  refine lv_lshl (v := ((xs (5 * k + 1)).toInt64) <<< (((32 : Int32).toInt64) &&& 63)) hx hb dL_law_213 rfl ?_
  refine lv_aload_n hx hb dL_law_214 rfl (lv_at hl 3 rfl) ?_
  refine lv_iload_n hx hb dL_law_215 rfl (lv_at hl 0 rfl) ?_
  refine lv_iconst (v := 2) hx hb dL_law_216 (by decide) ?_
  refine lv_iadd hx hb dL_law_217 ?_
  refine lv_cg (y := nI (5 * k + 2)) (by rw [show (2 : Int32) = nI 2 from rfl]; exact nI_add _ _) ?_
  refine va_sld hx hb hX hbl hbA hS (vp_in_nI (by omega) (by omega)) dL_law_218 ?_
  refine lv_cg (y := xs (5 * k + 2)) (by rw [nI_clamp (by omega)]) ?_
  refine lv_i2l (v := (xs (5 * k + 2)).toInt64) hx hb dL_law_219 rfl ?_
  refine lv_ldc2 (v := 4294967295) hx hb hown (hg _ wt_1276) dL_law_220 ?_
  refine lv_land hx hb dL_law_223 ?_
  refine lv_lor hx hb dL_law_224 ?_
  refine va_calli (va_runV (As := [.long ((((xs (5 * k + 1)).toInt64) <<< (((32 : Int32).toInt64) &&& 63)) ||| (((xs (5 * k + 2)).toInt64) &&& 4294967295))]) (rest := []) ⟨hx, hb, hml, hown, hg⟩ (k_X10_feedE l dC dI G _ ax hi T Y fa W0 W1 W2 N B N1 B1 N2 B2 K S M E Z ((((xs (5 * k + 1)).toInt64) <<< (((32 : Int32).toInt64) &&& 63)) ||| (((xs (5 * k + 2)).toInt64) &&& 4294967295))) (kwV hg mfX10_feed wt_345 ⟨Nat.le_of_ble_eq_true rfl, Nat.le_of_ble_eq_true rfl⟩) (preVI hK hXI (hXI.recv hK)) rfl rfl hl.1 rfl (lv_room (Nat.le_of_ble_eq_true rfl)) dL_law_225 ⟨Nat.le_of_ble_eq_true rfl, Nat.le_of_ble_eq_true rfl⟩) hS (fun q _ h => ad_A hAx hA (by decide) hS q h) (ad_A hAx hA (by decide) hS) (fun r1 u1 t1 H1 locs1 ht1 hv1 w1 hB1 hz1 hk1 hS => ?_)
  have hMI := hMI.kept (fr_ad (lo := 0) (hi := 112) hi (by decide) (by decide) (by decide) hk1)
  have hXI : X10I dC dI G ax (if T + 8 ≤ 320 then T + 8 else T) (if T + 8 ≤ 320 then fdC Y T ((((xs (5 * k + 1)).toInt64) <<< (((32 : Int32).toInt64) &&& 63)) ||| (((xs (5 * k + 2)).toInt64) &&& 4294967295)) else Y) fa W0 W1 W2 N B N1 B1 N2 B2 K S M E Z H1 := by rw [← ht1]; exact hB1
  refine W.widen (k := 129) (n := 4562) (by omega) (by omega) ?_
  refine lv_pop hx hb dL_law_228 rfl ?_
  refine lv_aload_n hx hb dL_law_229 rfl (lv_at hl 1 rfl) ?_
  refine lv_aload_n hx hb dL_law_230 rfl (lv_at hl 3 rfl) ?_
  refine lv_iload_n hx hb dL_law_231 rfl (lv_at hl 0 rfl) ?_
  refine lv_iconst (v := 1) hx hb dL_law_232 (by decide) ?_
  refine lv_iadd hx hb dL_law_233 ?_
  refine lv_cg (y := nI (5 * k + 1)) (by rw [show (1 : Int32) = nI 1 from rfl]; exact nI_add _ _) ?_
  refine va_sld hx hb hX hbl hbA hS (vp_in_nI (by omega) (by omega)) dL_law_234 ?_
  refine lv_cg (y := xs (5 * k + 1)) (by rw [nI_clamp (by omega)]) ?_
  refine lv_i2l (v := (xs (5 * k + 1)).toInt64) hx hb dL_law_235 rfl ?_
  refine lv_bipush (v := 32) hx hb dL_law_236 (by decide) ?_
  refine lv_lshl (v := ((xs (5 * k + 1)).toInt64) <<< (((32 : Int32).toInt64) &&& 63)) hx hb dL_law_238 rfl ?_
  refine lv_aload_n hx hb dL_law_239 rfl (lv_at hl 3 rfl) ?_
  refine lv_iload_n hx hb dL_law_240 rfl (lv_at hl 0 rfl) ?_
  refine lv_iconst (v := 2) hx hb dL_law_241 (by decide) ?_
  refine lv_iadd hx hb dL_law_242 ?_
  refine lv_cg (y := nI (5 * k + 2)) (by rw [show (2 : Int32) = nI 2 from rfl]; exact nI_add _ _) ?_
  refine va_sld hx hb hX hbl hbA hS (vp_in_nI (by omega) (by omega)) dL_law_243 ?_
  refine lv_cg (y := xs (5 * k + 2)) (by rw [nI_clamp (by omega)]) ?_
  refine lv_i2l (v := (xs (5 * k + 2)).toInt64) hx hb dL_law_244 rfl ?_
  refine lv_ldc2 (v := 4294967295) hx hb hown (hg _ wt_1276) dL_law_245 ?_
  refine lv_land hx hb dL_law_248 ?_
  refine lv_lor hx hb dL_law_249 ?_
  refine va_calli (va_runV (As := [.long ((((xs (5 * k + 1)).toInt64) <<< (((32 : Int32).toInt64) &&& 63)) ||| (((xs (5 * k + 2)).toInt64) &&& 4294967295))]) (rest := []) ⟨hx, hb, hml, hown, hg⟩ (k_X11_feedE l dC dI G _ ax hi T Y fa W0 W1 W2 N B N1 B1 N2 B2 K S M E Z ((((xs (5 * k + 1)).toInt64) <<< (((32 : Int32).toInt64) &&& 63)) ||| (((xs (5 * k + 2)).toInt64) &&& 4294967295))) (kwV hg mfX11_feed wt_984 ⟨Nat.le_of_ble_eq_true rfl, Nat.le_of_ble_eq_true rfl⟩) (preVI hK hMI (hMI.recv hK)) rfl rfl hl.1 rfl (lv_room (Nat.le_of_ble_eq_true rfl)) dL_law_250 ⟨Nat.le_of_ble_eq_true rfl, Nat.le_of_ble_eq_true rfl⟩) hS (fun q _ h => ad_A hAx hA (by decide) hS q h) (ad_A hAx hA (by decide) hS) (fun r2 u2 t2 H2 locs2 ht2 hv2 w2 hB2 hz2 hk2 hS => ?_)
  have hXI := hXI.kept (fr_ad (lo := 112) (hi := 129) hi (by decide) (by decide) (by decide) hk2)
  have hMI : X11I dC dI G ax (if T + 8 ≤ 320 then T + 8 else T) (if T + 8 ≤ 320 then fdC Y T ((((xs (5 * k + 1)).toInt64) <<< (((32 : Int32).toInt64) &&& 63)) ||| (((xs (5 * k + 2)).toInt64) &&& 4294967295)) else Y) fa W0 W1 W2 N B N1 B1 N2 B2 K S M E Z H2 := by rw [← ht2]; exact hB2
  refine W.widen (k := 129) (n := 4562) (by omega) (by omega) ?_
  refine lv_pop hx hb dL_law_253 rfl ?_
  refine lv_goto (tgt := 1382) hx hb dL_law_254 (by decide) ?_
  exact kk _ _ ⟨_, _, _, _, _, _, _, _, _, _, _, _, _, _, _, _, _, hXI, hMI⟩ hS

set_option maxHeartbeats 1000000 in
set_option maxRecDepth 100000 in
theorem lc_end {p : Program} {l : Launch} {e : Env} {s : State} {m : MethodId} {below : List Frame} {meth : Method} {c : Code} {b L : Nat} {xs : Nat → Int32} {dC : Nat → ClassId} {dI : Nat → Nat → Nat} {G : Nat → ClassId} {ax adK adV : Nat → Nat} {A : Nat → Prop} {Q : State → Prop} (C1 : lw_C p s m c b L xs dC dI G ax adK adV A) {k : Nat} (hk : 5 * k + 5 ≤ L) (hL : L ≤ 2560) {H : Heap} {locs : List Loc} {ls : Array Slot} (hI : LI dC dI G ax H) (hS : va_S A s.heap H locs) (hl : lv_has ls 4 [(3, .int (nI (5 * k))), (2, .ref (ax 112)), (1, .ref (ax 0)), (0, .ref b)]) (kk : ∀ (H : Heap) (locs : List Loc), LI dC dI G ax H → va_S A s.heap H locs → W p l e room_1 s m #[Value.ref b] below meth c H locs 129 4562 Q (F0 m 1382 ls [])) : W p l e room_1 s m #[Value.ref b] below meth c H locs 129 4562 Q (F0 m 257 ls []) := by
  obtain ⟨hx, hb, hml, hown, hg, hX, hbl, hbA, hK, hi, hAx, hA, hSS⟩ := C1
  obtain ⟨T, Y, fa, W0, W1, W2, N, B, N1, B1, N2, B2, K, S, M, E, Z, hXI, hMI⟩ := hI
  refine lv_aload_n hx hb dL_law_257 rfl (lv_at hl 2 rfl) ?_
  refine lv_aload_n hx hb dL_law_258 rfl (lv_at hl 3 rfl) ?_
  refine lv_iload_n hx hb dL_law_259 rfl (lv_at hl 0 rfl) ?_
  refine lv_iconst (v := 1) hx hb dL_law_260 (by decide) ?_
  refine lv_iadd hx hb dL_law_261 ?_
  refine lv_cg (y := nI (5 * k + 1)) (by rw [show (1 : Int32) = nI 1 from rfl]; exact nI_add _ _) ?_
  refine va_sld hx hb hX hbl hbA hS (vp_in_nI (by omega) (by omega)) dL_law_262 ?_
  refine lv_cg (y := xs (5 * k + 1)) (by rw [nI_clamp (by omega)]) ?_
  refine va_calli (va_runV (As := [.int (xs (5 * k + 1))]) (rest := []) ⟨hx, hb, hml, hown, hg⟩ (k_X10_end l dC dI G _ ax hi T Y fa W0 W1 W2 N B N1 B1 N2 B2 K S M E Z (xs (5 * k + 1))) (kwV hg mfX10_end wt_354 ⟨Nat.le_of_ble_eq_true rfl, Nat.le_of_ble_eq_true rfl⟩) (preVI hK hXI (hXI.recv hK)) rfl rfl hl.1 rfl (lv_room (Nat.le_of_ble_eq_true rfl)) dL_law_263 ⟨Nat.le_of_ble_eq_true rfl, Nat.le_of_ble_eq_true rfl⟩) hS (fun q _ h => ad_A hAx hA (by decide) hS q h) (ad_A hAx hA (by decide) hS) (fun r1 u1 t1 H1 locs1 ht1 hv1 w1 hB1 hz1 hk1 hS => ?_)
  have hMI := hMI.kept (fr_ad (lo := 0) (hi := 112) hi (by decide) (by decide) (by decide) hk1)
  have hXI : X10I dC dI G ax (if 0 ≤ (xs (5 * k + 1)).toInt ∧ (xs (5 * k + 1)).toInt ≤ ((T : Nat) : Int) then (xs (5 * k + 1)).toNatClampNeg else T) Y fa W0 W1 W2 N B N1 B1 N2 B2 K S M E Z H1 := by rw [← ht1]; exact hB1
  refine W.widen (k := 129) (n := 4562) (by omega) (by omega) ?_
  refine lv_pop hx hb dL_law_266 rfl ?_
  refine lv_aload_n hx hb dL_law_267 rfl (lv_at hl 1 rfl) ?_
  refine lv_aload_n hx hb dL_law_268 rfl (lv_at hl 3 rfl) ?_
  refine lv_iload_n hx hb dL_law_269 rfl (lv_at hl 0 rfl) ?_
  refine lv_iconst (v := 1) hx hb dL_law_270 (by decide) ?_
  refine lv_iadd hx hb dL_law_271 ?_
  refine lv_cg (y := nI (5 * k + 1)) (by rw [show (1 : Int32) = nI 1 from rfl]; exact nI_add _ _) ?_
  refine va_sld hx hb hX hbl hbA hS (vp_in_nI (by omega) (by omega)) dL_law_272 ?_
  refine lv_cg (y := xs (5 * k + 1)) (by rw [nI_clamp (by omega)]) ?_
  refine va_calli (va_runV (As := [.int (xs (5 * k + 1))]) (rest := []) ⟨hx, hb, hml, hown, hg⟩ (k_X11_end l dC dI G _ ax hi T Y fa W0 W1 W2 N B N1 B1 N2 B2 K S M E Z (xs (5 * k + 1))) (kwV hg mfX11_end wt_988 ⟨Nat.le_of_ble_eq_true rfl, Nat.le_of_ble_eq_true rfl⟩) (preVI hK hMI (hMI.recv hK)) rfl rfl hl.1 rfl (lv_room (Nat.le_of_ble_eq_true rfl)) dL_law_273 ⟨Nat.le_of_ble_eq_true rfl, Nat.le_of_ble_eq_true rfl⟩) hS (fun q _ h => ad_A hAx hA (by decide) hS q h) (ad_A hAx hA (by decide) hS) (fun r2 u2 t2 H2 locs2 ht2 hv2 w2 hB2 hz2 hk2 hS => ?_)
  have hXI := hXI.kept (fr_ad (lo := 112) (hi := 129) hi (by decide) (by decide) (by decide) hk2)
  have hMI : X11I dC dI G ax (if 0 ≤ (xs (5 * k + 1)).toInt ∧ (xs (5 * k + 1)).toInt ≤ ((T : Nat) : Int) then (xs (5 * k + 1)).toNatClampNeg else T) Y fa W0 W1 W2 N B N1 B1 N2 B2 K S M E Z H2 := by rw [← ht2]; exact hB2
  refine W.widen (k := 129) (n := 4562) (by omega) (by omega) ?_
  refine lv_pop hx hb dL_law_276 rfl ?_
  refine lv_goto (tgt := 1382) hx hb dL_law_277 (by decide) ?_
  exact kk _ _ ⟨_, _, _, _, _, _, _, _, _, _, _, _, _, _, _, _, _, hXI, hMI⟩ hS

set_option maxHeartbeats 1000000 in
set_option maxRecDepth 100000 in
theorem lc_text {p : Program} {l : Launch} {e : Env} {s : State} {m : MethodId} {below : List Frame} {meth : Method} {c : Code} {b L : Nat} {xs : Nat → Int32} {dC : Nat → ClassId} {dI : Nat → Nat → Nat} {G : Nat → ClassId} {ax adK adV : Nat → Nat} {A : Nat → Prop} {Q : State → Prop} (C1 : lw_C p s m c b L xs dC dI G ax adK adV A) {k : Nat} (hk : 5 * k + 5 ≤ L) (hL : L ≤ 2560) {H : Heap} {locs : List Loc} {ls : Array Slot} (hI : LI dC dI G ax H) (hS : va_S A s.heap H locs) (hl : lv_has ls 4 [(3, .int (nI (5 * k))), (2, .ref (ax 112)), (1, .ref (ax 0)), (0, .ref b)]) (kk : ∀ (H : Heap) (locs : List Loc), LI dC dI G ax H → va_S A s.heap H locs → W p l e room_1 s m #[Value.ref b] below meth c H locs 129 4562 Q (F0 m 1382 ls [])) : W p l e room_1 s m #[Value.ref b] below meth c H locs 129 4562 Q (F0 m 280 ls []) := by
  obtain ⟨hx, hb, hml, hown, hg, hX, hbl, hbA, hK, hi, hAx, hA, hSS⟩ := C1
  obtain ⟨T, Y, fa, W0, W1, W2, N, B, N1, B1, N2, B2, K, S, M, E, Z, hXI, hMI⟩ := hI
  refine lv_aload_n hx hb dL_law_280 rfl (lv_at hl 2 rfl) ?_
  refine va_calli (va_runV (As := []) (rest := []) ⟨hx, hb, hml, hown, hg⟩ (k_X10_textE l dC dI G _ ax hi T Y fa W0 W1 W2 N B N1 B1 N2 B2 K S M E Z adK adV) (kwV hg mfX10_text wt_358 ⟨Nat.le_of_ble_eq_true rfl, Nat.le_of_ble_eq_true rfl⟩) (preVIS hK hXI (hXI.recv hK) hSS hS (ad_A hAx hA (by decide) hS)) rfl rfl hl.1 rfl (lv_room (Nat.le_of_ble_eq_true rfl)) dL_law_281 ⟨Nat.le_of_ble_eq_true rfl, Nat.le_of_ble_eq_true rfl⟩) hS (fun q _ h => ad_A hAx hA (by decide) hS q h) (ad_A hAx hA (by decide) hS) (fun r1 u1 t1 H1 locs1 ht1 hv1 w1 hB1 hz1 hk1 hS => ?_)
  have hMI := hMI.kept (fr_ad (lo := 0) (hi := 112) hi (by decide) (by decide) (by decide) hk1)
  have hXI : X10I dC dI G ax 0 Y (txF Y T) (txW Y T W0) W1 W2 (txN Y T N) (txB Y T B) N1 B1 N2 B2 (txK Y T K) (txS Y T S) (txS Y T M) E Z H1 := by rw [← ht1]; exact hB1
  refine W.widen (k := 129) (n := 4562) (by omega) (by omega) ?_
  refine lv_pop hx hb dL_law_284 rfl ?_
  refine lv_aload_n hx hb dL_law_285 rfl (lv_at hl 1 rfl) ?_
  refine va_calli (va_runV (As := []) (rest := []) ⟨hx, hb, hml, hown, hg⟩ (k_X11_textE l dC dI G _ ax hi T Y fa W0 W1 W2 N B N1 B1 N2 B2 K S M E Z) (kwV hg mfX11_text wt_995 ⟨Nat.le_of_ble_eq_true rfl, Nat.le_of_ble_eq_true rfl⟩) (preVI hK hMI (hMI.recv hK)) rfl rfl hl.1 rfl (lv_room (Nat.le_of_ble_eq_true rfl)) dL_law_286 ⟨Nat.le_of_ble_eq_true rfl, Nat.le_of_ble_eq_true rfl⟩) hS (fun q _ h => ad_A hAx hA (by decide) hS q h) (ad_A hAx hA (by decide) hS) (fun r2 u2 t2 H2 locs2 ht2 hv2 w2 hB2 hz2 hk2 hS => ?_)
  have hXI := hXI.kept (fr_ad (lo := 112) (hi := 129) hi (by decide) (by decide) (by decide) hk2)
  have hMI : X11I dC dI G ax 0 Y (txF Y T) (txW Y T W0) W1 W2 (txN Y T N) (txB Y T B) N1 B1 N2 B2 (txK Y T K) (txS Y T S) (txS Y T M) E Z H2 := by rw [← ht2]; exact hB2
  refine W.widen (k := 129) (n := 4562) (by omega) (by omega) ?_
  refine lv_pop hx hb dL_law_289 rfl ?_
  refine lv_goto (tgt := 1382) hx hb dL_law_290 (by decide) ?_
  exact kk _ _ ⟨_, _, _, _, _, _, _, _, _, _, _, _, _, _, _, _, _, hXI, hMI⟩ hS

set_option maxHeartbeats 1000000 in
set_option maxRecDepth 100000 in
theorem lc_fault {p : Program} {l : Launch} {e : Env} {s : State} {m : MethodId} {below : List Frame} {meth : Method} {c : Code} {b L : Nat} {xs : Nat → Int32} {dC : Nat → ClassId} {dI : Nat → Nat → Nat} {G : Nat → ClassId} {ax adK adV : Nat → Nat} {A : Nat → Prop} {Q : State → Prop} (C1 : lw_C p s m c b L xs dC dI G ax adK adV A) {k : Nat} (hk : 5 * k + 5 ≤ L) (hL : L ≤ 2560) {H : Heap} {locs : List Loc} {ls : Array Slot} (hI : LI dC dI G ax H) (hS : va_S A s.heap H locs) (hl : lv_has ls 4 [(3, .int (nI (5 * k))), (2, .ref (ax 112)), (1, .ref (ax 0)), (0, .ref b)]) (kk : ∀ (H : Heap) (locs : List Loc), LI dC dI G ax H → va_S A s.heap H locs → W p l e room_1 s m #[Value.ref b] below meth c H locs 129 4562 Q (F0 m 1382 ls [])) : W p l e room_1 s m #[Value.ref b] below meth c H locs 129 4562 Q (F0 m 293 ls []) := by
  obtain ⟨hx, hb, hml, hown, hg, hX, hbl, hbA, hK, hi, hAx, hA, hSS⟩ := C1
  obtain ⟨T, Y, fa, W0, W1, W2, N, B, N1, B1, N2, B2, K, S, M, E, Z, hXI, hMI⟩ := hI
  refine lv_aload_n hx hb dL_law_293 rfl (lv_at hl 2 rfl) ?_
  refine va_calli (va_runV (As := []) (rest := []) ⟨hx, hb, hml, hown, hg⟩ (k_X10_faultE l dC dI G _ ax hi T Y fa W0 W1 W2 N B N1 B1 N2 B2 K S M E Z) (kwV hg mfX10_fault wt_515 ⟨Nat.le_of_ble_eq_true rfl, Nat.le_of_ble_eq_true rfl⟩) (preVI hK hXI (hXI.recv hK)) rfl rfl hl.1 rfl (lv_room (Nat.le_of_ble_eq_true rfl)) dL_law_294 ⟨Nat.le_of_ble_eq_true rfl, Nat.le_of_ble_eq_true rfl⟩) hS (fun q _ h => ad_A hAx hA (by decide) hS q h) (ad_A hAx hA (by decide) hS) (fun r1 u1 t1 H1 locs1 ht1 hv1 w1 hB1 hz1 hk1 hS => ?_)
  have hMI := hMI.kept (fr_ad (lo := 0) (hi := 112) hi (by decide) (by decide) (by decide) hk1)
  have hXI : X10I dC dI G ax T Y fa W0 W1 W2 N B N1 B1 N2 B2 K S M E Z H1 := by rw [← ht1]; exact hB1
  refine W.widen (k := 129) (n := 4562) (by omega) (by omega) ?_
  refine lv_pop hx hb dL_law_297 rfl ?_
  refine lv_aload_n hx hb dL_law_298 rfl (lv_at hl 1 rfl) ?_
  refine va_calli (va_runV (As := []) (rest := []) ⟨hx, hb, hml, hown, hg⟩ (k_X11_faultE l dC dI G _ ax hi T Y fa W0 W1 W2 N B N1 B1 N2 B2 K S M E Z) (kwV hg mfX11_fault wt_1036 ⟨Nat.le_of_ble_eq_true rfl, Nat.le_of_ble_eq_true rfl⟩) (preVI hK hMI (hMI.recv hK)) rfl rfl hl.1 rfl (lv_room (Nat.le_of_ble_eq_true rfl)) dL_law_299 ⟨Nat.le_of_ble_eq_true rfl, Nat.le_of_ble_eq_true rfl⟩) hS (fun q _ h => ad_A hAx hA (by decide) hS q h) (ad_A hAx hA (by decide) hS) (fun r2 u2 t2 H2 locs2 ht2 hv2 w2 hB2 hz2 hk2 hS => ?_)
  have hXI := hXI.kept (fr_ad (lo := 112) (hi := 129) hi (by decide) (by decide) (by decide) hk2)
  have hMI : X11I dC dI G ax T Y fa W0 W1 W2 N B N1 B1 N2 B2 K S M E Z H2 := by rw [← ht2]; exact hB2
  refine W.widen (k := 129) (n := 4562) (by omega) (by omega) ?_
  refine lv_pop hx hb dL_law_302 rfl ?_
  refine lv_goto (tgt := 1382) hx hb dL_law_303 (by decide) ?_
  exact kk _ _ ⟨_, _, _, _, _, _, _, _, _, _, _, _, _, _, _, _, _, hXI, hMI⟩ hS

set_option maxHeartbeats 1000000 in
set_option maxRecDepth 100000 in
theorem lc_rule {p : Program} {l : Launch} {e : Env} {s : State} {m : MethodId} {below : List Frame} {meth : Method} {c : Code} {b L : Nat} {xs : Nat → Int32} {dC : Nat → ClassId} {dI : Nat → Nat → Nat} {G : Nat → ClassId} {ax adK adV : Nat → Nat} {A : Nat → Prop} {Q : State → Prop} (C1 : lw_C p s m c b L xs dC dI G ax adK adV A) {k : Nat} (hk : 5 * k + 5 ≤ L) (hL : L ≤ 2560) {H : Heap} {locs : List Loc} {ls : Array Slot} (hI : LI dC dI G ax H) (hS : va_S A s.heap H locs) (hl : lv_has ls 4 [(3, .int (nI (5 * k))), (2, .ref (ax 112)), (1, .ref (ax 0)), (0, .ref b)]) (kk : ∀ (H : Heap) (locs : List Loc), LI dC dI G ax H → va_S A s.heap H locs → W p l e room_1 s m #[Value.ref b] below meth c H locs 129 4562 Q (F0 m 1382 ls [])) : W p l e room_1 s m #[Value.ref b] below meth c H locs 129 4562 Q (F0 m 306 ls []) := by
  obtain ⟨hx, hb, hml, hown, hg, hX, hbl, hbA, hK, hi, hAx, hA, hSS⟩ := C1
  obtain ⟨T, Y, fa, W0, W1, W2, N, B, N1, B1, N2, B2, K, S, M, E, Z, hXI, hMI⟩ := hI
  refine lv_aload_n hx hb dL_law_306 rfl (lv_at hl 2 rfl) ?_
  refine lv_aload_n hx hb dL_law_307 rfl (lv_at hl 3 rfl) ?_
  refine lv_iload_n hx hb dL_law_308 rfl (lv_at hl 0 rfl) ?_
  refine lv_iconst (v := 1) hx hb dL_law_309 (by decide) ?_
  refine lv_iadd hx hb dL_law_310 ?_
  refine lv_cg (y := nI (5 * k + 1)) (by rw [show (1 : Int32) = nI 1 from rfl]; exact nI_add _ _) ?_
  refine va_sld hx hb hX hbl hbA hS (vp_in_nI (by omega) (by omega)) dL_law_311 ?_
  refine lv_cg (y := xs (5 * k + 1)) (by rw [nI_clamp (by omega)]) ?_
  refine va_calli (va_runV (As := [.int (xs (5 * k + 1))]) (rest := []) ⟨hx, hb, hml, hown, hg⟩ (k_X10_ruleE l dC dI G _ ax hi T Y fa W0 W1 W2 N B N1 B1 N2 B2 K S M E Z (xs (5 * k + 1))) (kwV hg mfX10_rule wt_519 ⟨Nat.le_of_ble_eq_true rfl, Nat.le_of_ble_eq_true rfl⟩) (preVI hK hXI (hXI.recv hK)) rfl rfl hl.1 rfl (lv_room (Nat.le_of_ble_eq_true rfl)) dL_law_312 ⟨Nat.le_of_ble_eq_true rfl, Nat.le_of_ble_eq_true rfl⟩) hS (fun q _ h => ad_A hAx hA (by decide) hS q h) (ad_A hAx hA (by decide) hS) (fun r1 u1 t1 H1 locs1 ht1 hv1 w1 hB1 hz1 hk1 hS => ?_)
  have hMI := hMI.kept (fr_ad (lo := 0) (hi := 112) hi (by decide) (by decide) (by decide) hk1)
  have hXI : X10I dC dI G ax T Y fa W0 W1 W2 N B N1 B1 N2 B2 K S M E Z H1 := by rw [← ht1]; exact hB1
  refine W.widen (k := 129) (n := 4562) (by omega) (by omega) ?_
  refine lv_pop hx hb dL_law_315 rfl ?_
  refine lv_aload_n hx hb dL_law_316 rfl (lv_at hl 1 rfl) ?_
  refine lv_aload_n hx hb dL_law_317 rfl (lv_at hl 3 rfl) ?_
  refine lv_iload_n hx hb dL_law_318 rfl (lv_at hl 0 rfl) ?_
  refine lv_iconst (v := 1) hx hb dL_law_319 (by decide) ?_
  refine lv_iadd hx hb dL_law_320 ?_
  refine lv_cg (y := nI (5 * k + 1)) (by rw [show (1 : Int32) = nI 1 from rfl]; exact nI_add _ _) ?_
  refine va_sld hx hb hX hbl hbA hS (vp_in_nI (by omega) (by omega)) dL_law_321 ?_
  refine lv_cg (y := xs (5 * k + 1)) (by rw [nI_clamp (by omega)]) ?_
  refine va_calli (va_runV (As := [.int (xs (5 * k + 1))]) (rest := []) ⟨hx, hb, hml, hown, hg⟩ (k_X11_ruleE l dC dI G _ ax hi T Y fa W0 W1 W2 N B N1 B1 N2 B2 K S M E Z (xs (5 * k + 1))) (kwV hg mfX11_rule wt_1040 ⟨Nat.le_of_ble_eq_true rfl, Nat.le_of_ble_eq_true rfl⟩) (preVI hK hMI (hMI.recv hK)) rfl rfl hl.1 rfl (lv_room (Nat.le_of_ble_eq_true rfl)) dL_law_322 ⟨Nat.le_of_ble_eq_true rfl, Nat.le_of_ble_eq_true rfl⟩) hS (fun q _ h => ad_A hAx hA (by decide) hS q h) (ad_A hAx hA (by decide) hS) (fun r2 u2 t2 H2 locs2 ht2 hv2 w2 hB2 hz2 hk2 hS => ?_)
  have hXI := hXI.kept (fr_ad (lo := 112) (hi := 129) hi (by decide) (by decide) (by decide) hk2)
  have hMI : X11I dC dI G ax T Y fa W0 W1 W2 N B N1 B1 N2 B2 K S M E Z H2 := by rw [← ht2]; exact hB2
  refine W.widen (k := 129) (n := 4562) (by omega) (by omega) ?_
  refine lv_pop hx hb dL_law_325 rfl ?_
  refine lv_goto (tgt := 1382) hx hb dL_law_326 (by decide) ?_
  exact kk _ _ ⟨_, _, _, _, _, _, _, _, _, _, _, _, _, _, _, _, _, hXI, hMI⟩ hS

set_option maxHeartbeats 1000000 in
set_option maxRecDepth 100000 in
theorem lc_stretch {p : Program} {l : Launch} {e : Env} {s : State} {m : MethodId} {below : List Frame} {meth : Method} {c : Code} {b L : Nat} {xs : Nat → Int32} {dC : Nat → ClassId} {dI : Nat → Nat → Nat} {G : Nat → ClassId} {ax adK adV : Nat → Nat} {A : Nat → Prop} {Q : State → Prop} (C1 : lw_C p s m c b L xs dC dI G ax adK adV A) {k : Nat} (hk : 5 * k + 5 ≤ L) (hL : L ≤ 2560) {H : Heap} {locs : List Loc} {ls : Array Slot} (hI : LI dC dI G ax H) (hS : va_S A s.heap H locs) (hl : lv_has ls 4 [(3, .int (nI (5 * k))), (2, .ref (ax 112)), (1, .ref (ax 0)), (0, .ref b)]) (kk : ∀ (H : Heap) (locs : List Loc), LI dC dI G ax H → va_S A s.heap H locs → W p l e room_1 s m #[Value.ref b] below meth c H locs 129 4562 Q (F0 m 1382 ls [])) : W p l e room_1 s m #[Value.ref b] below meth c H locs 129 4562 Q (F0 m 329 ls []) := by
  obtain ⟨hx, hb, hml, hown, hg, hX, hbl, hbA, hK, hi, hAx, hA, hSS⟩ := C1
  obtain ⟨T, Y, fa, W0, W1, W2, N, B, N1, B1, N2, B2, K, S, M, E, Z, hXI, hMI⟩ := hI
  refine lv_aload_n hx hb dL_law_329 rfl (lv_at hl 2 rfl) ?_
  refine lv_aload_n hx hb dL_law_330 rfl (lv_at hl 3 rfl) ?_
  refine lv_iload_n hx hb dL_law_331 rfl (lv_at hl 0 rfl) ?_
  refine lv_iconst (v := 1) hx hb dL_law_332 (by decide) ?_
  refine lv_iadd hx hb dL_law_333 ?_
  refine lv_cg (y := nI (5 * k + 1)) (by rw [show (1 : Int32) = nI 1 from rfl]; exact nI_add _ _) ?_
  refine va_sld hx hb hX hbl hbA hS (vp_in_nI (by omega) (by omega)) dL_law_334 ?_
  refine lv_cg (y := xs (5 * k + 1)) (by rw [nI_clamp (by omega)]) ?_
  refine lv_aload_n hx hb dL_law_335 rfl (lv_at hl 3 rfl) ?_
  refine lv_iload_n hx hb dL_law_336 rfl (lv_at hl 0 rfl) ?_
  refine lv_iconst (v := 2) hx hb dL_law_337 (by decide) ?_
  refine lv_iadd hx hb dL_law_338 ?_
  refine lv_cg (y := nI (5 * k + 2)) (by rw [show (2 : Int32) = nI 2 from rfl]; exact nI_add _ _) ?_
  refine va_sld hx hb hX hbl hbA hS (vp_in_nI (by omega) (by omega)) dL_law_339 ?_
  refine lv_cg (y := xs (5 * k + 2)) (by rw [nI_clamp (by omega)]) ?_
  refine va_calli (va_runV (As := [.int (xs (5 * k + 1)), .int (xs (5 * k + 2))]) (rest := []) ⟨hx, hb, hml, hown, hg⟩ (k_X10_stretch l dC dI G _ ax hi T Y fa W0 W1 W2 N B N1 B1 N2 B2 K S M E Z (xs (5 * k + 1)) (xs (5 * k + 2))) (kwV hg mfX10_stretch wt_523 ⟨Nat.le_of_ble_eq_true rfl, Nat.le_of_ble_eq_true rfl⟩) (preVI hK hXI (hXI.recv hK)) rfl rfl hl.1 rfl (lv_room (Nat.le_of_ble_eq_true rfl)) dL_law_340 ⟨Nat.le_of_ble_eq_true rfl, Nat.le_of_ble_eq_true rfl⟩) hS (fun q _ h => ad_A hAx hA (by decide) hS q h) (ad_A hAx hA (by decide) hS) (fun r1 u1 t1 H1 locs1 ht1 hv1 w1 hB1 hz1 hk1 hS => ?_)
  have hMI := hMI.kept (fr_ad (lo := 0) (hi := 112) hi (by decide) (by decide) (by decide) hk1)
  have hXI : X10I dC dI G ax T Y fa W0 W1 W2 N B N1 B1 N2 B2 K S M E Z H1 := by rw [← ht1]; exact hB1
  refine W.widen (k := 129) (n := 4562) (by omega) (by omega) ?_
  refine lv_pop hx hb dL_law_343 rfl ?_
  refine lv_aload_n hx hb dL_law_344 rfl (lv_at hl 1 rfl) ?_
  refine lv_aload_n hx hb dL_law_345 rfl (lv_at hl 3 rfl) ?_
  refine lv_iload_n hx hb dL_law_346 rfl (lv_at hl 0 rfl) ?_
  refine lv_iconst (v := 1) hx hb dL_law_347 (by decide) ?_
  refine lv_iadd hx hb dL_law_348 ?_
  refine lv_cg (y := nI (5 * k + 1)) (by rw [show (1 : Int32) = nI 1 from rfl]; exact nI_add _ _) ?_
  refine va_sld hx hb hX hbl hbA hS (vp_in_nI (by omega) (by omega)) dL_law_349 ?_
  refine lv_cg (y := xs (5 * k + 1)) (by rw [nI_clamp (by omega)]) ?_
  refine lv_aload_n hx hb dL_law_350 rfl (lv_at hl 3 rfl) ?_
  refine lv_iload_n hx hb dL_law_351 rfl (lv_at hl 0 rfl) ?_
  refine lv_iconst (v := 2) hx hb dL_law_352 (by decide) ?_
  refine lv_iadd hx hb dL_law_353 ?_
  refine lv_cg (y := nI (5 * k + 2)) (by rw [show (2 : Int32) = nI 2 from rfl]; exact nI_add _ _) ?_
  refine va_sld hx hb hX hbl hbA hS (vp_in_nI (by omega) (by omega)) dL_law_354 ?_
  refine lv_cg (y := xs (5 * k + 2)) (by rw [nI_clamp (by omega)]) ?_
  refine va_calli (va_runV (As := [.int (xs (5 * k + 1)), .int (xs (5 * k + 2))]) (rest := []) ⟨hx, hb, hml, hown, hg⟩ (k_X11_stretch l dC dI G _ ax hi T Y fa W0 W1 W2 N B N1 B1 N2 B2 K S M E Z (xs (5 * k + 1)) (xs (5 * k + 2))) (kwV hg mfX11_stretch wt_1048 ⟨Nat.le_of_ble_eq_true rfl, Nat.le_of_ble_eq_true rfl⟩) (preVI hK hMI (hMI.recv hK)) rfl rfl hl.1 rfl (lv_room (Nat.le_of_ble_eq_true rfl)) dL_law_355 ⟨Nat.le_of_ble_eq_true rfl, Nat.le_of_ble_eq_true rfl⟩) hS (fun q _ h => ad_A hAx hA (by decide) hS q h) (ad_A hAx hA (by decide) hS) (fun r2 u2 t2 H2 locs2 ht2 hv2 w2 hB2 hz2 hk2 hS => ?_)
  have hXI := hXI.kept (fr_ad (lo := 112) (hi := 129) hi (by decide) (by decide) (by decide) hk2)
  have hMI : X11I dC dI G ax T Y fa W0 W1 W2 N B N1 B1 N2 B2 K S M E Z H2 := by rw [← ht2]; exact hB2
  refine W.widen (k := 129) (n := 4562) (by omega) (by omega) ?_
  refine lv_pop hx hb dL_law_358 rfl ?_
  refine lv_goto (tgt := 1382) hx hb dL_law_359 (by decide) ?_
  exact kk _ _ ⟨_, _, _, _, _, _, _, _, _, _, _, _, _, _, _, _, _, hXI, hMI⟩ hS

set_option maxHeartbeats 1000000 in
set_option maxRecDepth 100000 in
theorem lc_bearer {p : Program} {l : Launch} {e : Env} {s : State} {m : MethodId} {below : List Frame} {meth : Method} {c : Code} {b L : Nat} {xs : Nat → Int32} {dC : Nat → ClassId} {dI : Nat → Nat → Nat} {G : Nat → ClassId} {ax adK adV : Nat → Nat} {A : Nat → Prop} {Q : State → Prop} (C1 : lw_C p s m c b L xs dC dI G ax adK adV A) {k : Nat} (hk : 5 * k + 5 ≤ L) (hL : L ≤ 2560) {H : Heap} {locs : List Loc} {ls : Array Slot} (hI : LI dC dI G ax H) (hS : va_S A s.heap H locs) (hl : lv_has ls 4 [(3, .int (nI (5 * k))), (2, .ref (ax 112)), (1, .ref (ax 0)), (0, .ref b)]) (kk : ∀ (H : Heap) (locs : List Loc), LI dC dI G ax H → va_S A s.heap H locs → W p l e room_1 s m #[Value.ref b] below meth c H locs 129 4562 Q (F0 m 1382 ls [])) : W p l e room_1 s m #[Value.ref b] below meth c H locs 129 4562 Q (F0 m 362 ls []) := by
  obtain ⟨hx, hb, hml, hown, hg, hX, hbl, hbA, hK, hi, hAx, hA, hSS⟩ := C1
  obtain ⟨T, Y, fa, W0, W1, W2, N, B, N1, B1, N2, B2, K, S, M, E, Z, hXI, hMI⟩ := hI
  refine lv_aload_n hx hb dL_law_362 rfl (lv_at hl 2 rfl) ?_
  refine lv_aload_n hx hb dL_law_363 rfl (lv_at hl 3 rfl) ?_
  refine lv_iload_n hx hb dL_law_364 rfl (lv_at hl 0 rfl) ?_
  refine lv_iconst (v := 1) hx hb dL_law_365 (by decide) ?_
  refine lv_iadd hx hb dL_law_366 ?_
  refine lv_cg (y := nI (5 * k + 1)) (by rw [show (1 : Int32) = nI 1 from rfl]; exact nI_add _ _) ?_
  refine va_sld hx hb hX hbl hbA hS (vp_in_nI (by omega) (by omega)) dL_law_367 ?_
  refine lv_cg (y := xs (5 * k + 1)) (by rw [nI_clamp (by omega)]) ?_
  refine lv_aload_n hx hb dL_law_368 rfl (lv_at hl 3 rfl) ?_
  refine lv_iload_n hx hb dL_law_369 rfl (lv_at hl 0 rfl) ?_
  refine lv_iconst (v := 2) hx hb dL_law_370 (by decide) ?_
  refine lv_iadd hx hb dL_law_371 ?_
  refine lv_cg (y := nI (5 * k + 2)) (by rw [show (2 : Int32) = nI 2 from rfl]; exact nI_add _ _) ?_
  refine va_sld hx hb hX hbl hbA hS (vp_in_nI (by omega) (by omega)) dL_law_372 ?_
  refine lv_cg (y := xs (5 * k + 2)) (by rw [nI_clamp (by omega)]) ?_
  refine va_calli (va_runV (As := [.int (xs (5 * k + 1)), .int (xs (5 * k + 2))]) (rest := []) ⟨hx, hb, hml, hown, hg⟩ (k_X10_bearerE l dC dI G _ ax hi T Y fa W0 W1 W2 N B N1 B1 N2 B2 K S M E Z (xs (5 * k + 1)) (xs (5 * k + 2))) (kwV hg mfX10_bearer wt_531 ⟨Nat.le_of_ble_eq_true rfl, Nat.le_of_ble_eq_true rfl⟩) (preVI hK hXI (hXI.recv hK)) rfl rfl hl.1 rfl (lv_room (Nat.le_of_ble_eq_true rfl)) dL_law_373 ⟨Nat.le_of_ble_eq_true rfl, Nat.le_of_ble_eq_true rfl⟩) hS (fun q _ h => ad_A hAx hA (by decide) hS q h) (ad_A hAx hA (by decide) hS) (fun r1 u1 t1 H1 locs1 ht1 hv1 w1 hB1 hz1 hk1 hS => ?_)
  have hMI := hMI.kept (fr_ad (lo := 0) (hi := 112) hi (by decide) (by decide) (by decide) hk1)
  have hXI : X10I dC dI G ax T Y fa W0 W1 W2 N B N1 B1 N2 B2 K S M E Z H1 := by rw [← ht1]; exact hB1
  refine W.widen (k := 129) (n := 4562) (by omega) (by omega) ?_
  refine lv_pop hx hb dL_law_376 rfl ?_
  refine lv_aload_n hx hb dL_law_377 rfl (lv_at hl 1 rfl) ?_
  refine lv_aload_n hx hb dL_law_378 rfl (lv_at hl 3 rfl) ?_
  refine lv_iload_n hx hb dL_law_379 rfl (lv_at hl 0 rfl) ?_
  refine lv_iconst (v := 1) hx hb dL_law_380 (by decide) ?_
  refine lv_iadd hx hb dL_law_381 ?_
  refine lv_cg (y := nI (5 * k + 1)) (by rw [show (1 : Int32) = nI 1 from rfl]; exact nI_add _ _) ?_
  refine va_sld hx hb hX hbl hbA hS (vp_in_nI (by omega) (by omega)) dL_law_382 ?_
  refine lv_cg (y := xs (5 * k + 1)) (by rw [nI_clamp (by omega)]) ?_
  refine lv_aload_n hx hb dL_law_383 rfl (lv_at hl 3 rfl) ?_
  refine lv_iload_n hx hb dL_law_384 rfl (lv_at hl 0 rfl) ?_
  refine lv_iconst (v := 2) hx hb dL_law_385 (by decide) ?_
  refine lv_iadd hx hb dL_law_386 ?_
  refine lv_cg (y := nI (5 * k + 2)) (by rw [show (2 : Int32) = nI 2 from rfl]; exact nI_add _ _) ?_
  refine va_sld hx hb hX hbl hbA hS (vp_in_nI (by omega) (by omega)) dL_law_387 ?_
  refine lv_cg (y := xs (5 * k + 2)) (by rw [nI_clamp (by omega)]) ?_
  refine va_calli (va_runV (As := [.int (xs (5 * k + 1)), .int (xs (5 * k + 2))]) (rest := []) ⟨hx, hb, hml, hown, hg⟩ (k_X11_bearerE l dC dI G _ ax hi T Y fa W0 W1 W2 N B N1 B1 N2 B2 K S M E Z (xs (5 * k + 1)) (xs (5 * k + 2))) (kwV hg mfX11_bearer wt_1057 ⟨Nat.le_of_ble_eq_true rfl, Nat.le_of_ble_eq_true rfl⟩) (preVI hK hMI (hMI.recv hK)) rfl rfl hl.1 rfl (lv_room (Nat.le_of_ble_eq_true rfl)) dL_law_388 ⟨Nat.le_of_ble_eq_true rfl, Nat.le_of_ble_eq_true rfl⟩) hS (fun q _ h => ad_A hAx hA (by decide) hS q h) (ad_A hAx hA (by decide) hS) (fun r2 u2 t2 H2 locs2 ht2 hv2 w2 hB2 hz2 hk2 hS => ?_)
  have hXI := hXI.kept (fr_ad (lo := 112) (hi := 129) hi (by decide) (by decide) (by decide) hk2)
  have hMI : X11I dC dI G ax T Y fa W0 W1 W2 N B N1 B1 N2 B2 K S M E Z H2 := by rw [← ht2]; exact hB2
  refine W.widen (k := 129) (n := 4562) (by omega) (by omega) ?_
  refine lv_pop hx hb dL_law_391 rfl ?_
  refine lv_goto (tgt := 1382) hx hb dL_law_392 (by decide) ?_
  exact kk _ _ ⟨_, _, _, _, _, _, _, _, _, _, _, _, _, _, _, _, _, hXI, hMI⟩ hS

set_option maxHeartbeats 1000000 in
set_option maxRecDepth 100000 in
theorem lc_start {p : Program} {l : Launch} {e : Env} {s : State} {m : MethodId} {below : List Frame} {meth : Method} {c : Code} {b L : Nat} {xs : Nat → Int32} {dC : Nat → ClassId} {dI : Nat → Nat → Nat} {G : Nat → ClassId} {ax adK adV : Nat → Nat} {A : Nat → Prop} {Q : State → Prop} (C1 : lw_C p s m c b L xs dC dI G ax adK adV A) {k : Nat} (hk : 5 * k + 5 ≤ L) (hL : L ≤ 2560) {H : Heap} {locs : List Loc} {ls : Array Slot} (hI : LI dC dI G ax H) (hS : va_S A s.heap H locs) (hl : lv_has ls 4 [(3, .int (nI (5 * k))), (2, .ref (ax 112)), (1, .ref (ax 0)), (0, .ref b)]) (kk : ∀ (H : Heap) (locs : List Loc), LI dC dI G ax H → va_S A s.heap H locs → W p l e room_1 s m #[Value.ref b] below meth c H locs 129 4562 Q (F0 m 1382 ls [])) : W p l e room_1 s m #[Value.ref b] below meth c H locs 129 4562 Q (F0 m 395 ls []) := by
  obtain ⟨hx, hb, hml, hown, hg, hX, hbl, hbA, hK, hi, hAx, hA, hSS⟩ := C1
  obtain ⟨T, Y, fa, W0, W1, W2, N, B, N1, B1, N2, B2, K, S, M, E, Z, hXI, hMI⟩ := hI
  refine lv_aload_n hx hb dL_law_395 rfl (lv_at hl 2 rfl) ?_
  refine lv_aload_n hx hb dL_law_396 rfl (lv_at hl 3 rfl) ?_
  refine lv_iload_n hx hb dL_law_397 rfl (lv_at hl 0 rfl) ?_
  refine lv_iconst (v := 1) hx hb dL_law_398 (by decide) ?_
  refine lv_iadd hx hb dL_law_399 ?_
  refine lv_cg (y := nI (5 * k + 1)) (by rw [show (1 : Int32) = nI 1 from rfl]; exact nI_add _ _) ?_
  refine va_sld hx hb hX hbl hbA hS (vp_in_nI (by omega) (by omega)) dL_law_400 ?_
  refine lv_cg (y := xs (5 * k + 1)) (by rw [nI_clamp (by omega)]) ?_
  refine va_calli (va_runV (As := [.int (xs (5 * k + 1))]) (rest := []) ⟨hx, hb, hml, hown, hg⟩ (k_X10_startE l dC dI G _ ax hi T Y fa W0 W1 W2 N B N1 B1 N2 B2 K S M E Z (xs (5 * k + 1))) (kwV hg mfX10_start wt_539 ⟨Nat.le_of_ble_eq_true rfl, Nat.le_of_ble_eq_true rfl⟩) (preVI hK hXI (hXI.recv hK)) rfl rfl hl.1 rfl (lv_room (Nat.le_of_ble_eq_true rfl)) dL_law_401 ⟨Nat.le_of_ble_eq_true rfl, Nat.le_of_ble_eq_true rfl⟩) hS (fun q _ h => ad_A hAx hA (by decide) hS q h) (ad_A hAx hA (by decide) hS) (fun r1 u1 t1 H1 locs1 ht1 hv1 w1 hB1 hz1 hk1 hS => ?_)
  have hMI := hMI.kept (fr_ad (lo := 0) (hi := 112) hi (by decide) (by decide) (by decide) hk1)
  have hXI : X10I dC dI G ax T Y fa (if (1 ≤ (xs (5 * k + 1)).toInt ∧ (xs (5 * k + 1)).toInt ≤ 9) then upd W0 48 ((xs (5 * k + 1)) - 5) else W0) W1 W2 N B N1 B1 N2 B2 K S M E Z H1 := by rw [← ht1]; exact hB1
  refine W.widen (k := 129) (n := 4562) (by omega) (by omega) ?_
  refine lv_pop hx hb dL_law_404 rfl ?_
  refine lv_aload_n hx hb dL_law_405 rfl (lv_at hl 1 rfl) ?_
  refine lv_aload_n hx hb dL_law_406 rfl (lv_at hl 3 rfl) ?_
  refine lv_iload_n hx hb dL_law_407 rfl (lv_at hl 0 rfl) ?_
  refine lv_iconst (v := 1) hx hb dL_law_408 (by decide) ?_
  refine lv_iadd hx hb dL_law_409 ?_
  refine lv_cg (y := nI (5 * k + 1)) (by rw [show (1 : Int32) = nI 1 from rfl]; exact nI_add _ _) ?_
  refine va_sld hx hb hX hbl hbA hS (vp_in_nI (by omega) (by omega)) dL_law_410 ?_
  refine lv_cg (y := xs (5 * k + 1)) (by rw [nI_clamp (by omega)]) ?_
  refine va_calli (va_runV (As := [.int (xs (5 * k + 1))]) (rest := []) ⟨hx, hb, hml, hown, hg⟩ (k_X11_startE l dC dI G _ ax hi T Y fa W0 W1 W2 N B N1 B1 N2 B2 K S M E Z (xs (5 * k + 1))) (kwV hg mfX11_start wt_1065 ⟨Nat.le_of_ble_eq_true rfl, Nat.le_of_ble_eq_true rfl⟩) (preVI hK hMI (hMI.recv hK)) rfl rfl hl.1 rfl (lv_room (Nat.le_of_ble_eq_true rfl)) dL_law_411 ⟨Nat.le_of_ble_eq_true rfl, Nat.le_of_ble_eq_true rfl⟩) hS (fun q _ h => ad_A hAx hA (by decide) hS q h) (ad_A hAx hA (by decide) hS) (fun r2 u2 t2 H2 locs2 ht2 hv2 w2 hB2 hz2 hk2 hS => ?_)
  have hXI := hXI.kept (fr_ad (lo := 112) (hi := 129) hi (by decide) (by decide) (by decide) hk2)
  have hMI : X11I dC dI G ax T Y fa (if (1 ≤ (xs (5 * k + 1)).toInt ∧ (xs (5 * k + 1)).toInt ≤ 9) then upd W0 48 ((xs (5 * k + 1)) - 5) else W0) W1 W2 N B N1 B1 N2 B2 K S M E Z H2 := by rw [← ht2]; exact hB2
  refine W.widen (k := 129) (n := 4562) (by omega) (by omega) ?_
  refine lv_pop hx hb dL_law_414 rfl ?_
  refine lv_goto (tgt := 1382) hx hb dL_law_415 (by decide) ?_
  exact kk _ _ ⟨_, _, _, _, _, _, _, _, _, _, _, _, _, _, _, _, _, hXI, hMI⟩ hS

set_option maxHeartbeats 1000000 in
set_option maxRecDepth 100000 in
theorem lc_noise {p : Program} {l : Launch} {e : Env} {s : State} {m : MethodId} {below : List Frame} {meth : Method} {c : Code} {b L : Nat} {xs : Nat → Int32} {dC : Nat → ClassId} {dI : Nat → Nat → Nat} {G : Nat → ClassId} {ax adK adV : Nat → Nat} {A : Nat → Prop} {Q : State → Prop} (C1 : lw_C p s m c b L xs dC dI G ax adK adV A) {k : Nat} (hk : 5 * k + 5 ≤ L) (hL : L ≤ 2560) {H : Heap} {locs : List Loc} {ls : Array Slot} (hI : LI dC dI G ax H) (hS : va_S A s.heap H locs) (hl : lv_has ls 4 [(3, .int (nI (5 * k))), (2, .ref (ax 112)), (1, .ref (ax 0)), (0, .ref b)]) (kk : ∀ (H : Heap) (locs : List Loc), LI dC dI G ax H → va_S A s.heap H locs → W p l e room_1 s m #[Value.ref b] below meth c H locs 129 4562 Q (F0 m 1382 ls [])) : W p l e room_1 s m #[Value.ref b] below meth c H locs 129 4562 Q (F0 m 418 ls []) := by
  obtain ⟨hx, hb, hml, hown, hg, hX, hbl, hbA, hK, hi, hAx, hA, hSS⟩ := C1
  obtain ⟨T, Y, fa, W0, W1, W2, N, B, N1, B1, N2, B2, K, S, M, E, Z, hXI, hMI⟩ := hI
  refine lv_aload_n hx hb dL_law_418 rfl (lv_at hl 2 rfl) ?_
  refine lv_aload_n hx hb dL_law_419 rfl (lv_at hl 3 rfl) ?_
  refine lv_iload_n hx hb dL_law_420 rfl (lv_at hl 0 rfl) ?_
  refine lv_iconst (v := 1) hx hb dL_law_421 (by decide) ?_
  refine lv_iadd hx hb dL_law_422 ?_
  refine lv_cg (y := nI (5 * k + 1)) (by rw [show (1 : Int32) = nI 1 from rfl]; exact nI_add _ _) ?_
  refine va_sld hx hb hX hbl hbA hS (vp_in_nI (by omega) (by omega)) dL_law_423 ?_
  refine lv_cg (y := xs (5 * k + 1)) (by rw [nI_clamp (by omega)]) ?_
  refine lv_aload_n hx hb dL_law_424 rfl (lv_at hl 3 rfl) ?_
  refine lv_iload_n hx hb dL_law_425 rfl (lv_at hl 0 rfl) ?_
  refine lv_iconst (v := 2) hx hb dL_law_426 (by decide) ?_
  refine lv_iadd hx hb dL_law_427 ?_
  refine lv_cg (y := nI (5 * k + 2)) (by rw [show (2 : Int32) = nI 2 from rfl]; exact nI_add _ _) ?_
  refine va_sld hx hb hX hbl hbA hS (vp_in_nI (by omega) (by omega)) dL_law_428 ?_
  refine lv_cg (y := xs (5 * k + 2)) (by rw [nI_clamp (by omega)]) ?_
  refine va_calli (va_runV (As := [.int (xs (5 * k + 1)), .int (xs (5 * k + 2))]) (rest := []) ⟨hx, hb, hml, hown, hg⟩ (k_X10_noiseE l dC dI G _ ax hi T Y fa W0 W1 W2 N B N1 B1 N2 B2 K S M E Z (xs (5 * k + 1)) (xs (5 * k + 2))) (kwV hg mfX10_noise wt_543 ⟨Nat.le_of_ble_eq_true rfl, Nat.le_of_ble_eq_true rfl⟩) (preVI hK hXI (hXI.recv hK)) rfl rfl hl.1 rfl (lv_room (Nat.le_of_ble_eq_true rfl)) dL_law_429 ⟨Nat.le_of_ble_eq_true rfl, Nat.le_of_ble_eq_true rfl⟩) hS (fun q _ h => ad_A hAx hA (by decide) hS q h) (ad_A hAx hA (by decide) hS) (fun r1 u1 t1 H1 locs1 ht1 hv1 w1 hB1 hz1 hk1 hS => ?_)
  have hMI := hMI.kept (fr_ad (lo := 0) (hi := 112) hi (by decide) (by decide) (by decide) hk1)
  have hXI : X10I dC dI G ax T Y fa (if ((0 ≤ (xs (5 * k + 1)).toInt ∧ (xs (5 * k + 1)).toInt < ((N : Nat) : Int)) ∧ 0 ≤ (xs (5 * k + 2)).toInt ∧ (xs (5 * k + 2)).toInt ≤ 9) then upd W0 (2 * (xs (5 * k + 1)).toNatClampNeg) (xs (5 * k + 2)) else W0) W1 W2 N B N1 B1 N2 B2 K S M E Z H1 := by rw [← ht1]; exact hB1
  refine W.widen (k := 129) (n := 4562) (by omega) (by omega) ?_
  refine lv_pop hx hb dL_law_432 rfl ?_
  refine lv_aload_n hx hb dL_law_433 rfl (lv_at hl 1 rfl) ?_
  refine lv_aload_n hx hb dL_law_434 rfl (lv_at hl 3 rfl) ?_
  refine lv_iload_n hx hb dL_law_435 rfl (lv_at hl 0 rfl) ?_
  refine lv_iconst (v := 1) hx hb dL_law_436 (by decide) ?_
  refine lv_iadd hx hb dL_law_437 ?_
  refine lv_cg (y := nI (5 * k + 1)) (by rw [show (1 : Int32) = nI 1 from rfl]; exact nI_add _ _) ?_
  refine va_sld hx hb hX hbl hbA hS (vp_in_nI (by omega) (by omega)) dL_law_438 ?_
  refine lv_cg (y := xs (5 * k + 1)) (by rw [nI_clamp (by omega)]) ?_
  refine lv_aload_n hx hb dL_law_439 rfl (lv_at hl 3 rfl) ?_
  refine lv_iload_n hx hb dL_law_440 rfl (lv_at hl 0 rfl) ?_
  refine lv_iconst (v := 2) hx hb dL_law_441 (by decide) ?_
  refine lv_iadd hx hb dL_law_442 ?_
  refine lv_cg (y := nI (5 * k + 2)) (by rw [show (2 : Int32) = nI 2 from rfl]; exact nI_add _ _) ?_
  refine va_sld hx hb hX hbl hbA hS (vp_in_nI (by omega) (by omega)) dL_law_443 ?_
  refine lv_cg (y := xs (5 * k + 2)) (by rw [nI_clamp (by omega)]) ?_
  refine va_calli (va_runV (As := [.int (xs (5 * k + 1)), .int (xs (5 * k + 2))]) (rest := []) ⟨hx, hb, hml, hown, hg⟩ (k_X11_noiseE l dC dI G _ ax hi T Y fa W0 W1 W2 N B N1 B1 N2 B2 K S M E Z (xs (5 * k + 1)) (xs (5 * k + 2))) (kwV hg mfX11_noise wt_1074 ⟨Nat.le_of_ble_eq_true rfl, Nat.le_of_ble_eq_true rfl⟩) (preVI hK hMI (hMI.recv hK)) rfl rfl hl.1 rfl (lv_room (Nat.le_of_ble_eq_true rfl)) dL_law_444 ⟨Nat.le_of_ble_eq_true rfl, Nat.le_of_ble_eq_true rfl⟩) hS (fun q _ h => ad_A hAx hA (by decide) hS q h) (ad_A hAx hA (by decide) hS) (fun r2 u2 t2 H2 locs2 ht2 hv2 w2 hB2 hz2 hk2 hS => ?_)
  have hXI := hXI.kept (fr_ad (lo := 112) (hi := 129) hi (by decide) (by decide) (by decide) hk2)
  have hMI : X11I dC dI G ax T Y fa (if ((0 ≤ (xs (5 * k + 1)).toInt ∧ (xs (5 * k + 1)).toInt < ((N : Nat) : Int)) ∧ 0 ≤ (xs (5 * k + 2)).toInt ∧ (xs (5 * k + 2)).toInt ≤ 9) then upd W0 (2 * (xs (5 * k + 1)).toNatClampNeg) (xs (5 * k + 2)) else W0) W1 W2 N B N1 B1 N2 B2 K S M E Z H2 := by rw [← ht2]; exact hB2
  refine W.widen (k := 129) (n := 4562) (by omega) (by omega) ?_
  refine lv_pop hx hb dL_law_447 rfl ?_
  refine lv_goto (tgt := 1382) hx hb dL_law_448 (by decide) ?_
  exact kk _ _ ⟨_, _, _, _, _, _, _, _, _, _, _, _, _, _, _, _, _, hXI, hMI⟩ hS

set_option maxHeartbeats 1000000 in
set_option maxRecDepth 100000 in
theorem lc_cold {p : Program} {l : Launch} {e : Env} {s : State} {m : MethodId} {below : List Frame} {meth : Method} {c : Code} {b L : Nat} {xs : Nat → Int32} {dC : Nat → ClassId} {dI : Nat → Nat → Nat} {G : Nat → ClassId} {ax adK adV : Nat → Nat} {A : Nat → Prop} {Q : State → Prop} (C1 : lw_C p s m c b L xs dC dI G ax adK adV A) {k : Nat} (hk : 5 * k + 5 ≤ L) (hL : L ≤ 2560) {H : Heap} {locs : List Loc} {ls : Array Slot} (hI : LI dC dI G ax H) (hS : va_S A s.heap H locs) (hl : lv_has ls 4 [(3, .int (nI (5 * k))), (2, .ref (ax 112)), (1, .ref (ax 0)), (0, .ref b)]) (kk : ∀ (H : Heap) (locs : List Loc), LI dC dI G ax H → va_S A s.heap H locs → W p l e room_1 s m #[Value.ref b] below meth c H locs 129 4562 Q (F0 m 1382 ls [])) : W p l e room_1 s m #[Value.ref b] below meth c H locs 129 4562 Q (F0 m 451 ls []) := by
  obtain ⟨hx, hb, hml, hown, hg, hX, hbl, hbA, hK, hi, hAx, hA, hSS⟩ := C1
  obtain ⟨T, Y, fa, W0, W1, W2, N, B, N1, B1, N2, B2, K, S, M, E, Z, hXI, hMI⟩ := hI
  refine lv_aload_n hx hb dL_law_451 rfl (lv_at hl 2 rfl) ?_
  refine lv_aload_n hx hb dL_law_452 rfl (lv_at hl 3 rfl) ?_
  refine lv_iload_n hx hb dL_law_453 rfl (lv_at hl 0 rfl) ?_
  refine lv_iconst (v := 1) hx hb dL_law_454 (by decide) ?_
  refine lv_iadd hx hb dL_law_455 ?_
  refine lv_cg (y := nI (5 * k + 1)) (by rw [show (1 : Int32) = nI 1 from rfl]; exact nI_add _ _) ?_
  refine va_sld hx hb hX hbl hbA hS (vp_in_nI (by omega) (by omega)) dL_law_456 ?_
  refine lv_cg (y := xs (5 * k + 1)) (by rw [nI_clamp (by omega)]) ?_
  refine lv_aload_n hx hb dL_law_457 rfl (lv_at hl 3 rfl) ?_
  refine lv_iload_n hx hb dL_law_458 rfl (lv_at hl 0 rfl) ?_
  refine lv_iconst (v := 2) hx hb dL_law_459 (by decide) ?_
  refine lv_iadd hx hb dL_law_460 ?_
  refine lv_cg (y := nI (5 * k + 2)) (by rw [show (2 : Int32) = nI 2 from rfl]; exact nI_add _ _) ?_
  refine va_sld hx hb hX hbl hbA hS (vp_in_nI (by omega) (by omega)) dL_law_461 ?_
  refine lv_cg (y := xs (5 * k + 2)) (by rw [nI_clamp (by omega)]) ?_
  refine va_calli (va_runV (As := [.int (xs (5 * k + 1)), .int (xs (5 * k + 2))]) (rest := []) ⟨hx, hb, hml, hown, hg⟩ (k_X10_coldE l dC dI G _ ax hi T Y fa W0 W1 W2 N B N1 B1 N2 B2 K S M E Z (xs (5 * k + 1)) (xs (5 * k + 2))) (kwV hg mfX10_cold wt_550 ⟨Nat.le_of_ble_eq_true rfl, Nat.le_of_ble_eq_true rfl⟩) (preVI hK hXI (hXI.recv hK)) rfl rfl hl.1 rfl (lv_room (Nat.le_of_ble_eq_true rfl)) dL_law_462 ⟨Nat.le_of_ble_eq_true rfl, Nat.le_of_ble_eq_true rfl⟩) hS (fun q _ h => ad_A hAx hA (by decide) hS q h) (ad_A hAx hA (by decide) hS) (fun r1 u1 t1 H1 locs1 ht1 hv1 w1 hB1 hz1 hk1 hS => ?_)
  have hMI := hMI.kept (fr_ad (lo := 0) (hi := 112) hi (by decide) (by decide) (by decide) hk1)
  have hXI : X10I dC dI G ax T Y fa (if ((0 ≤ (xs (5 * k + 1)).toInt ∧ (xs (5 * k + 1)).toInt < ((N : Nat) : Int)) ∧ 0 ≤ (xs (5 * k + 2)).toInt ∧ (xs (5 * k + 2)).toInt ≤ 9) then upd W0 (2 * (xs (5 * k + 1)).toNatClampNeg + 1) (xs (5 * k + 2)) else W0) W1 W2 N B N1 B1 N2 B2 K S M E Z H1 := by rw [← ht1]; exact hB1
  refine W.widen (k := 129) (n := 4562) (by omega) (by omega) ?_
  refine lv_pop hx hb dL_law_465 rfl ?_
  refine lv_aload_n hx hb dL_law_466 rfl (lv_at hl 1 rfl) ?_
  refine lv_aload_n hx hb dL_law_467 rfl (lv_at hl 3 rfl) ?_
  refine lv_iload_n hx hb dL_law_468 rfl (lv_at hl 0 rfl) ?_
  refine lv_iconst (v := 1) hx hb dL_law_469 (by decide) ?_
  refine lv_iadd hx hb dL_law_470 ?_
  refine lv_cg (y := nI (5 * k + 1)) (by rw [show (1 : Int32) = nI 1 from rfl]; exact nI_add _ _) ?_
  refine va_sld hx hb hX hbl hbA hS (vp_in_nI (by omega) (by omega)) dL_law_471 ?_
  refine lv_cg (y := xs (5 * k + 1)) (by rw [nI_clamp (by omega)]) ?_
  refine lv_aload_n hx hb dL_law_472 rfl (lv_at hl 3 rfl) ?_
  refine lv_iload_n hx hb dL_law_473 rfl (lv_at hl 0 rfl) ?_
  refine lv_iconst (v := 2) hx hb dL_law_474 (by decide) ?_
  refine lv_iadd hx hb dL_law_475 ?_
  refine lv_cg (y := nI (5 * k + 2)) (by rw [show (2 : Int32) = nI 2 from rfl]; exact nI_add _ _) ?_
  refine va_sld hx hb hX hbl hbA hS (vp_in_nI (by omega) (by omega)) dL_law_476 ?_
  refine lv_cg (y := xs (5 * k + 2)) (by rw [nI_clamp (by omega)]) ?_
  refine va_calli (va_runV (As := [.int (xs (5 * k + 1)), .int (xs (5 * k + 2))]) (rest := []) ⟨hx, hb, hml, hown, hg⟩ (k_X11_coldE l dC dI G _ ax hi T Y fa W0 W1 W2 N B N1 B1 N2 B2 K S M E Z (xs (5 * k + 1)) (xs (5 * k + 2))) (kwV hg mfX11_cold wt_1078 ⟨Nat.le_of_ble_eq_true rfl, Nat.le_of_ble_eq_true rfl⟩) (preVI hK hMI (hMI.recv hK)) rfl rfl hl.1 rfl (lv_room (Nat.le_of_ble_eq_true rfl)) dL_law_477 ⟨Nat.le_of_ble_eq_true rfl, Nat.le_of_ble_eq_true rfl⟩) hS (fun q _ h => ad_A hAx hA (by decide) hS q h) (ad_A hAx hA (by decide) hS) (fun r2 u2 t2 H2 locs2 ht2 hv2 w2 hB2 hz2 hk2 hS => ?_)
  have hXI := hXI.kept (fr_ad (lo := 112) (hi := 129) hi (by decide) (by decide) (by decide) hk2)
  have hMI : X11I dC dI G ax T Y fa (if ((0 ≤ (xs (5 * k + 1)).toInt ∧ (xs (5 * k + 1)).toInt < ((N : Nat) : Int)) ∧ 0 ≤ (xs (5 * k + 2)).toInt ∧ (xs (5 * k + 2)).toInt ≤ 9) then upd W0 (2 * (xs (5 * k + 1)).toNatClampNeg + 1) (xs (5 * k + 2)) else W0) W1 W2 N B N1 B1 N2 B2 K S M E Z H2 := by rw [← ht2]; exact hB2
  refine W.widen (k := 129) (n := 4562) (by omega) (by omega) ?_
  refine lv_pop hx hb dL_law_480 rfl ?_
  refine lv_goto (tgt := 1382) hx hb dL_law_481 (by decide) ?_
  exact kk _ _ ⟨_, _, _, _, _, _, _, _, _, _, _, _, _, _, _, _, _, hXI, hMI⟩ hS

set_option maxHeartbeats 1000000 in
set_option maxRecDepth 100000 in
theorem lc_step {p : Program} {l : Launch} {e : Env} {s : State} {m : MethodId} {below : List Frame} {meth : Method} {c : Code} {b L : Nat} {xs : Nat → Int32} {dC : Nat → ClassId} {dI : Nat → Nat → Nat} {G : Nat → ClassId} {ax adK adV : Nat → Nat} {A : Nat → Prop} {Q : State → Prop} (C1 : lw_C p s m c b L xs dC dI G ax adK adV A) {k : Nat} (hk : 5 * k + 5 ≤ L) (hL : L ≤ 2560) {H : Heap} {locs : List Loc} {ls : Array Slot} (hI : LI dC dI G ax H) (hS : va_S A s.heap H locs) (hl : lv_has ls 4 [(3, .int (nI (5 * k))), (2, .ref (ax 112)), (1, .ref (ax 0)), (0, .ref b)]) (kk : ∀ (H : Heap) (locs : List Loc), LI dC dI G ax H → va_S A s.heap H locs → W p l e room_1 s m #[Value.ref b] below meth c H locs 129 4562 Q (F0 m 1382 ls [])) : W p l e room_1 s m #[Value.ref b] below meth c H locs 129 4562 Q (F0 m 484 ls []) := by
  obtain ⟨hx, hb, hml, hown, hg, hX, hbl, hbA, hK, hi, hAx, hA, hSS⟩ := C1
  obtain ⟨T, Y, fa, W0, W1, W2, N, B, N1, B1, N2, B2, K, S, M, E, Z, hXI, hMI⟩ := hI
  refine lv_aload_n hx hb dL_law_484 rfl (lv_at hl 2 rfl) ?_
  refine lv_aload_n hx hb dL_law_485 rfl (lv_at hl 3 rfl) ?_
  refine lv_iload_n hx hb dL_law_486 rfl (lv_at hl 0 rfl) ?_
  refine lv_iconst (v := 1) hx hb dL_law_487 (by decide) ?_
  refine lv_iadd hx hb dL_law_488 ?_
  refine lv_cg (y := nI (5 * k + 1)) (by rw [show (1 : Int32) = nI 1 from rfl]; exact nI_add _ _) ?_
  refine va_sld hx hb hX hbl hbA hS (vp_in_nI (by omega) (by omega)) dL_law_489 ?_
  refine lv_cg (y := xs (5 * k + 1)) (by rw [nI_clamp (by omega)]) ?_
  refine lv_aload_n hx hb dL_law_490 rfl (lv_at hl 3 rfl) ?_
  refine lv_iload_n hx hb dL_law_491 rfl (lv_at hl 0 rfl) ?_
  refine lv_iconst (v := 2) hx hb dL_law_492 (by decide) ?_
  refine lv_iadd hx hb dL_law_493 ?_
  refine lv_cg (y := nI (5 * k + 2)) (by rw [show (2 : Int32) = nI 2 from rfl]; exact nI_add _ _) ?_
  refine va_sld hx hb hX hbl hbA hS (vp_in_nI (by omega) (by omega)) dL_law_494 ?_
  refine lv_cg (y := xs (5 * k + 2)) (by rw [nI_clamp (by omega)]) ?_
  refine va_calli (va_runV (As := [.int (xs (5 * k + 1)), .int (xs (5 * k + 2))]) (rest := []) ⟨hx, hb, hml, hown, hg⟩ (k_X10_stepE l dC dI G _ ax hi T Y fa W0 W1 W2 N B N1 B1 N2 B2 K S M E Z (xs (5 * k + 1)) (xs (5 * k + 2))) (kwV hg mfX10_step wt_554 ⟨Nat.le_of_ble_eq_true rfl, Nat.le_of_ble_eq_true rfl⟩) (preVI hK hXI (hXI.recv hK)) rfl rfl hl.1 rfl (lv_room (Nat.le_of_ble_eq_true rfl)) dL_law_495 ⟨Nat.le_of_ble_eq_true rfl, Nat.le_of_ble_eq_true rfl⟩) hS (fun q _ h => ad_A hAx hA (by decide) hS q h) (ad_A hAx hA (by decide) hS) (fun r1 u1 t1 H1 locs1 ht1 hv1 w1 hB1 hz1 hk1 hS => ?_)
  have hMI := hMI.kept (fr_ad (lo := 0) (hi := 112) hi (by decide) (by decide) (by decide) hk1)
  have hXI : X10I dC dI G ax T Y fa (if ((0 ≤ (xs (5 * k + 1)).toInt ∧ (xs (5 * k + 1)).toInt < ((B : Nat) : Int)) ∧ 0 ≤ (xs (5 * k + 2)).toInt ∧ (xs (5 * k + 2)).toInt ≤ 9) then upd W0 (20 + 3 * (xs (5 * k + 1)).toNatClampNeg + 1) (xs (5 * k + 2)) else W0) W1 W2 N B N1 B1 N2 B2 K S M E Z H1 := by rw [← ht1]; exact hB1
  refine W.widen (k := 129) (n := 4562) (by omega) (by omega) ?_
  refine lv_pop hx hb dL_law_498 rfl ?_
  refine lv_aload_n hx hb dL_law_499 rfl (lv_at hl 1 rfl) ?_
  refine lv_aload_n hx hb dL_law_500 rfl (lv_at hl 3 rfl) ?_
  refine lv_iload_n hx hb dL_law_501 rfl (lv_at hl 0 rfl) ?_
  refine lv_iconst (v := 1) hx hb dL_law_502 (by decide) ?_
  refine lv_iadd hx hb dL_law_503 ?_
  refine lv_cg (y := nI (5 * k + 1)) (by rw [show (1 : Int32) = nI 1 from rfl]; exact nI_add _ _) ?_
  refine va_sld hx hb hX hbl hbA hS (vp_in_nI (by omega) (by omega)) dL_law_504 ?_
  refine lv_cg (y := xs (5 * k + 1)) (by rw [nI_clamp (by omega)]) ?_
  refine lv_aload_n hx hb dL_law_505 rfl (lv_at hl 3 rfl) ?_
  refine lv_iload_n hx hb dL_law_506 rfl (lv_at hl 0 rfl) ?_
  refine lv_iconst (v := 2) hx hb dL_law_507 (by decide) ?_
  refine lv_iadd hx hb dL_law_508 ?_
  refine lv_cg (y := nI (5 * k + 2)) (by rw [show (2 : Int32) = nI 2 from rfl]; exact nI_add _ _) ?_
  refine va_sld hx hb hX hbl hbA hS (vp_in_nI (by omega) (by omega)) dL_law_509 ?_
  refine lv_cg (y := xs (5 * k + 2)) (by rw [nI_clamp (by omega)]) ?_
  refine va_calli (va_runV (As := [.int (xs (5 * k + 1)), .int (xs (5 * k + 2))]) (rest := []) ⟨hx, hb, hml, hown, hg⟩ (k_X11_stepE l dC dI G _ ax hi T Y fa W0 W1 W2 N B N1 B1 N2 B2 K S M E Z (xs (5 * k + 1)) (xs (5 * k + 2))) (kwV hg mfX11_step wt_1082 ⟨Nat.le_of_ble_eq_true rfl, Nat.le_of_ble_eq_true rfl⟩) (preVI hK hMI (hMI.recv hK)) rfl rfl hl.1 rfl (lv_room (Nat.le_of_ble_eq_true rfl)) dL_law_510 ⟨Nat.le_of_ble_eq_true rfl, Nat.le_of_ble_eq_true rfl⟩) hS (fun q _ h => ad_A hAx hA (by decide) hS q h) (ad_A hAx hA (by decide) hS) (fun r2 u2 t2 H2 locs2 ht2 hv2 w2 hB2 hz2 hk2 hS => ?_)
  have hXI := hXI.kept (fr_ad (lo := 112) (hi := 129) hi (by decide) (by decide) (by decide) hk2)
  have hMI : X11I dC dI G ax T Y fa (if ((0 ≤ (xs (5 * k + 1)).toInt ∧ (xs (5 * k + 1)).toInt < ((B : Nat) : Int)) ∧ 0 ≤ (xs (5 * k + 2)).toInt ∧ (xs (5 * k + 2)).toInt ≤ 9) then upd W0 (20 + 3 * (xs (5 * k + 1)).toNatClampNeg + 1) (xs (5 * k + 2)) else W0) W1 W2 N B N1 B1 N2 B2 K S M E Z H2 := by rw [← ht2]; exact hB2
  refine W.widen (k := 129) (n := 4562) (by omega) (by omega) ?_
  refine lv_pop hx hb dL_law_513 rfl ?_
  refine lv_goto (tgt := 1382) hx hb dL_law_514 (by decide) ?_
  exact kk _ _ ⟨_, _, _, _, _, _, _, _, _, _, _, _, _, _, _, _, _, hXI, hMI⟩ hS

set_option maxHeartbeats 1000000 in
set_option maxRecDepth 100000 in
theorem lc_warm {p : Program} {l : Launch} {e : Env} {s : State} {m : MethodId} {below : List Frame} {meth : Method} {c : Code} {b L : Nat} {xs : Nat → Int32} {dC : Nat → ClassId} {dI : Nat → Nat → Nat} {G : Nat → ClassId} {ax adK adV : Nat → Nat} {A : Nat → Prop} {Q : State → Prop} (C1 : lw_C p s m c b L xs dC dI G ax adK adV A) {k : Nat} (hk : 5 * k + 5 ≤ L) (hL : L ≤ 2560) {H : Heap} {locs : List Loc} {ls : Array Slot} (hI : LI dC dI G ax H) (hS : va_S A s.heap H locs) (hl : lv_has ls 4 [(3, .int (nI (5 * k))), (2, .ref (ax 112)), (1, .ref (ax 0)), (0, .ref b)]) (kk : ∀ (H : Heap) (locs : List Loc), LI dC dI G ax H → va_S A s.heap H locs → W p l e room_1 s m #[Value.ref b] below meth c H locs 129 4562 Q (F0 m 1382 ls [])) : W p l e room_1 s m #[Value.ref b] below meth c H locs 129 4562 Q (F0 m 517 ls []) := by
  obtain ⟨hx, hb, hml, hown, hg, hX, hbl, hbA, hK, hi, hAx, hA, hSS⟩ := C1
  obtain ⟨T, Y, fa, W0, W1, W2, N, B, N1, B1, N2, B2, K, S, M, E, Z, hXI, hMI⟩ := hI
  refine lv_aload_n hx hb dL_law_517 rfl (lv_at hl 2 rfl) ?_
  refine lv_aload_n hx hb dL_law_518 rfl (lv_at hl 3 rfl) ?_
  refine lv_iload_n hx hb dL_law_519 rfl (lv_at hl 0 rfl) ?_
  refine lv_iconst (v := 1) hx hb dL_law_520 (by decide) ?_
  refine lv_iadd hx hb dL_law_521 ?_
  refine lv_cg (y := nI (5 * k + 1)) (by rw [show (1 : Int32) = nI 1 from rfl]; exact nI_add _ _) ?_
  refine va_sld hx hb hX hbl hbA hS (vp_in_nI (by omega) (by omega)) dL_law_522 ?_
  refine lv_cg (y := xs (5 * k + 1)) (by rw [nI_clamp (by omega)]) ?_
  refine lv_aload_n hx hb dL_law_523 rfl (lv_at hl 3 rfl) ?_
  refine lv_iload_n hx hb dL_law_524 rfl (lv_at hl 0 rfl) ?_
  refine lv_iconst (v := 2) hx hb dL_law_525 (by decide) ?_
  refine lv_iadd hx hb dL_law_526 ?_
  refine lv_cg (y := nI (5 * k + 2)) (by rw [show (2 : Int32) = nI 2 from rfl]; exact nI_add _ _) ?_
  refine va_sld hx hb hX hbl hbA hS (vp_in_nI (by omega) (by omega)) dL_law_527 ?_
  refine lv_cg (y := xs (5 * k + 2)) (by rw [nI_clamp (by omega)]) ?_
  refine va_calli (va_runV (As := [.int (xs (5 * k + 1)), .int (xs (5 * k + 2))]) (rest := []) ⟨hx, hb, hml, hown, hg⟩ (k_X10_warmE l dC dI G _ ax hi T Y fa W0 W1 W2 N B N1 B1 N2 B2 K S M E Z (xs (5 * k + 1)) (xs (5 * k + 2))) (kwV hg mfX10_warm wt_558 ⟨Nat.le_of_ble_eq_true rfl, Nat.le_of_ble_eq_true rfl⟩) (preVI hK hXI (hXI.recv hK)) rfl rfl hl.1 rfl (lv_room (Nat.le_of_ble_eq_true rfl)) dL_law_528 ⟨Nat.le_of_ble_eq_true rfl, Nat.le_of_ble_eq_true rfl⟩) hS (fun q _ h => ad_A hAx hA (by decide) hS q h) (ad_A hAx hA (by decide) hS) (fun r1 u1 t1 H1 locs1 ht1 hv1 w1 hB1 hz1 hk1 hS => ?_)
  have hMI := hMI.kept (fr_ad (lo := 0) (hi := 112) hi (by decide) (by decide) (by decide) hk1)
  have hXI : X10I dC dI G ax T Y fa (if ((0 ≤ (xs (5 * k + 1)).toInt ∧ (xs (5 * k + 1)).toInt < ((B : Nat) : Int)) ∧ 0 ≤ (xs (5 * k + 2)).toInt ∧ (xs (5 * k + 2)).toInt ≤ 9) then upd W0 (20 + 3 * (xs (5 * k + 1)).toNatClampNeg + 2) (xs (5 * k + 2)) else W0) W1 W2 N B N1 B1 N2 B2 K S M E Z H1 := by rw [← ht1]; exact hB1
  refine W.widen (k := 129) (n := 4562) (by omega) (by omega) ?_
  refine lv_pop hx hb dL_law_531 rfl ?_
  refine lv_aload_n hx hb dL_law_532 rfl (lv_at hl 1 rfl) ?_
  refine lv_aload_n hx hb dL_law_533 rfl (lv_at hl 3 rfl) ?_
  refine lv_iload_n hx hb dL_law_534 rfl (lv_at hl 0 rfl) ?_
  refine lv_iconst (v := 1) hx hb dL_law_535 (by decide) ?_
  refine lv_iadd hx hb dL_law_536 ?_
  refine lv_cg (y := nI (5 * k + 1)) (by rw [show (1 : Int32) = nI 1 from rfl]; exact nI_add _ _) ?_
  refine va_sld hx hb hX hbl hbA hS (vp_in_nI (by omega) (by omega)) dL_law_537 ?_
  refine lv_cg (y := xs (5 * k + 1)) (by rw [nI_clamp (by omega)]) ?_
  refine lv_aload_n hx hb dL_law_538 rfl (lv_at hl 3 rfl) ?_
  refine lv_iload_n hx hb dL_law_539 rfl (lv_at hl 0 rfl) ?_
  refine lv_iconst (v := 2) hx hb dL_law_540 (by decide) ?_
  refine lv_iadd hx hb dL_law_541 ?_
  refine lv_cg (y := nI (5 * k + 2)) (by rw [show (2 : Int32) = nI 2 from rfl]; exact nI_add _ _) ?_
  refine va_sld hx hb hX hbl hbA hS (vp_in_nI (by omega) (by omega)) dL_law_542 ?_
  refine lv_cg (y := xs (5 * k + 2)) (by rw [nI_clamp (by omega)]) ?_
  refine va_calli (va_runV (As := [.int (xs (5 * k + 1)), .int (xs (5 * k + 2))]) (rest := []) ⟨hx, hb, hml, hown, hg⟩ (k_X11_warmE l dC dI G _ ax hi T Y fa W0 W1 W2 N B N1 B1 N2 B2 K S M E Z (xs (5 * k + 1)) (xs (5 * k + 2))) (kwV hg mfX11_warm wt_1086 ⟨Nat.le_of_ble_eq_true rfl, Nat.le_of_ble_eq_true rfl⟩) (preVI hK hMI (hMI.recv hK)) rfl rfl hl.1 rfl (lv_room (Nat.le_of_ble_eq_true rfl)) dL_law_543 ⟨Nat.le_of_ble_eq_true rfl, Nat.le_of_ble_eq_true rfl⟩) hS (fun q _ h => ad_A hAx hA (by decide) hS q h) (ad_A hAx hA (by decide) hS) (fun r2 u2 t2 H2 locs2 ht2 hv2 w2 hB2 hz2 hk2 hS => ?_)
  have hXI := hXI.kept (fr_ad (lo := 112) (hi := 129) hi (by decide) (by decide) (by decide) hk2)
  have hMI : X11I dC dI G ax T Y fa (if ((0 ≤ (xs (5 * k + 1)).toInt ∧ (xs (5 * k + 1)).toInt < ((B : Nat) : Int)) ∧ 0 ≤ (xs (5 * k + 2)).toInt ∧ (xs (5 * k + 2)).toInt ≤ 9) then upd W0 (20 + 3 * (xs (5 * k + 1)).toNatClampNeg + 2) (xs (5 * k + 2)) else W0) W1 W2 N B N1 B1 N2 B2 K S M E Z H2 := by rw [← ht2]; exact hB2
  refine W.widen (k := 129) (n := 4562) (by omega) (by omega) ?_
  refine lv_pop hx hb dL_law_546 rfl ?_
  refine lv_goto (tgt := 1382) hx hb dL_law_547 (by decide) ?_
  exact kk _ _ ⟨_, _, _, _, _, _, _, _, _, _, _, _, _, _, _, _, _, hXI, hMI⟩ hS

set_option maxHeartbeats 1000000 in
set_option maxRecDepth 100000 in
theorem lc_put {p : Program} {l : Launch} {e : Env} {s : State} {m : MethodId} {below : List Frame} {meth : Method} {c : Code} {b L : Nat} {xs : Nat → Int32} {dC : Nat → ClassId} {dI : Nat → Nat → Nat} {G : Nat → ClassId} {ax adK adV : Nat → Nat} {A : Nat → Prop} {Q : State → Prop} (C1 : lw_C p s m c b L xs dC dI G ax adK adV A) {k : Nat} (hk : 5 * k + 5 ≤ L) (hL : L ≤ 2560) {H : Heap} {locs : List Loc} {ls : Array Slot} (hI : LI dC dI G ax H) (hS : va_S A s.heap H locs) (hl : lv_has ls 4 [(3, .int (nI (5 * k))), (2, .ref (ax 112)), (1, .ref (ax 0)), (0, .ref b)]) (kk : ∀ (H : Heap) (locs : List Loc), LI dC dI G ax H → va_S A s.heap H locs → W p l e room_1 s m #[Value.ref b] below meth c H locs 129 4562 Q (F0 m 1382 ls [])) : W p l e room_1 s m #[Value.ref b] below meth c H locs 129 4562 Q (F0 m 550 ls []) := by
  obtain ⟨hx, hb, hml, hown, hg, hX, hbl, hbA, hK, hi, hAx, hA, hSS⟩ := C1
  obtain ⟨T, Y, fa, W0, W1, W2, N, B, N1, B1, N2, B2, K, S, M, E, Z, hXI, hMI⟩ := hI
  refine lv_aload_n hx hb dL_law_550 rfl (lv_at hl 2 rfl) ?_
  refine lv_aload_n hx hb dL_law_551 rfl (lv_at hl 3 rfl) ?_
  refine lv_iload_n hx hb dL_law_552 rfl (lv_at hl 0 rfl) ?_
  refine lv_iconst (v := 1) hx hb dL_law_553 (by decide) ?_
  refine lv_iadd hx hb dL_law_554 ?_
  refine lv_cg (y := nI (5 * k + 1)) (by rw [show (1 : Int32) = nI 1 from rfl]; exact nI_add _ _) ?_
  refine va_sld hx hb hX hbl hbA hS (vp_in_nI (by omega) (by omega)) dL_law_555 ?_
  refine lv_cg (y := xs (5 * k + 1)) (by rw [nI_clamp (by omega)]) ?_
  refine lv_aload_n hx hb dL_law_556 rfl (lv_at hl 3 rfl) ?_
  refine lv_iload_n hx hb dL_law_557 rfl (lv_at hl 0 rfl) ?_
  refine lv_iconst (v := 2) hx hb dL_law_558 (by decide) ?_
  refine lv_iadd hx hb dL_law_559 ?_
  refine lv_cg (y := nI (5 * k + 2)) (by rw [show (2 : Int32) = nI 2 from rfl]; exact nI_add _ _) ?_
  refine va_sld hx hb hX hbl hbA hS (vp_in_nI (by omega) (by omega)) dL_law_560 ?_
  refine lv_cg (y := xs (5 * k + 2)) (by rw [nI_clamp (by omega)]) ?_
  refine va_calli (va_runV (As := [.int (xs (5 * k + 1)), .int (xs (5 * k + 2))]) (rest := []) ⟨hx, hb, hml, hown, hg⟩ (k_X10_put l dC dI G _ ax hi T Y fa W0 W1 W2 N B N1 B1 N2 B2 K S M E Z (xs (5 * k + 1)) (xs (5 * k + 2))) (kwV hg mfX10_put wt_562 ⟨Nat.le_of_ble_eq_true rfl, Nat.le_of_ble_eq_true rfl⟩) (preVI hK hXI (hXI.recv hK)) rfl rfl hl.1 rfl (lv_room (Nat.le_of_ble_eq_true rfl)) dL_law_561 ⟨Nat.le_of_ble_eq_true rfl, Nat.le_of_ble_eq_true rfl⟩) hS (fun q _ h => ad_A hAx hA (by decide) hS q h) (ad_A hAx hA (by decide) hS) (fun r1 u1 t1 H1 locs1 ht1 hv1 w1 hB1 hz1 hk1 hS => ?_)
  have hMI := hMI.kept (fr_ad (lo := 0) (hi := 112) hi (by decide) (by decide) (by decide) hk1)
  have hXI : X10I dC dI G ax T Y fa W0 W1 W2 N B N1 B1 N2 B2 K S M E Z H1 := by rw [← ht1]; exact hB1
  refine W.widen (k := 129) (n := 4562) (by omega) (by omega) ?_
  refine lv_pop hx hb dL_law_564 rfl ?_
  refine lv_aload_n hx hb dL_law_565 rfl (lv_at hl 1 rfl) ?_
  refine lv_aload_n hx hb dL_law_566 rfl (lv_at hl 3 rfl) ?_
  refine lv_iload_n hx hb dL_law_567 rfl (lv_at hl 0 rfl) ?_
  refine lv_iconst (v := 1) hx hb dL_law_568 (by decide) ?_
  refine lv_iadd hx hb dL_law_569 ?_
  refine lv_cg (y := nI (5 * k + 1)) (by rw [show (1 : Int32) = nI 1 from rfl]; exact nI_add _ _) ?_
  refine va_sld hx hb hX hbl hbA hS (vp_in_nI (by omega) (by omega)) dL_law_570 ?_
  refine lv_cg (y := xs (5 * k + 1)) (by rw [nI_clamp (by omega)]) ?_
  refine lv_aload_n hx hb dL_law_571 rfl (lv_at hl 3 rfl) ?_
  refine lv_iload_n hx hb dL_law_572 rfl (lv_at hl 0 rfl) ?_
  refine lv_iconst (v := 2) hx hb dL_law_573 (by decide) ?_
  refine lv_iadd hx hb dL_law_574 ?_
  refine lv_cg (y := nI (5 * k + 2)) (by rw [show (2 : Int32) = nI 2 from rfl]; exact nI_add _ _) ?_
  refine va_sld hx hb hX hbl hbA hS (vp_in_nI (by omega) (by omega)) dL_law_575 ?_
  refine lv_cg (y := xs (5 * k + 2)) (by rw [nI_clamp (by omega)]) ?_
  refine va_calli (va_runV (As := [.int (xs (5 * k + 1)), .int (xs (5 * k + 2))]) (rest := []) ⟨hx, hb, hml, hown, hg⟩ (k_X11_putW l dC dI G _ ax hi T Y fa W0 W1 W2 N B N1 B1 N2 B2 K S M E Z (xs (5 * k + 1)) (xs (5 * k + 2))) (kwV hg mfX11_put wt_1090 ⟨Nat.le_of_ble_eq_true rfl, Nat.le_of_ble_eq_true rfl⟩) (preVI hK hMI (hMI.recv hK)) rfl rfl hl.1 rfl (lv_room (Nat.le_of_ble_eq_true rfl)) dL_law_576 ⟨Nat.le_of_ble_eq_true rfl, Nat.le_of_ble_eq_true rfl⟩) hS (fun q _ h => ad_A hAx hA (by decide) hS q h) (ad_A hAx hA (by decide) hS) (fun r2 u2 t2 H2 locs2 ht2 hv2 w2 hB2 hz2 hk2 hS => ?_)
  have hXI := hXI.kept (fr_ad (lo := 112) (hi := 129) hi (by decide) (by decide) (by decide) hk2)
  have hMI : X11I dC dI G ax T Y fa W0 W1 W2 N B N1 B1 N2 B2 K S M E Z H2 := by rw [← ht2]; exact hB2
  refine W.widen (k := 129) (n := 4562) (by omega) (by omega) ?_
  refine lv_pop hx hb dL_law_579 rfl ?_
  refine lv_goto (tgt := 1382) hx hb dL_law_580 (by decide) ?_
  exact kk _ _ ⟨_, _, _, _, _, _, _, _, _, _, _, _, _, _, _, _, _, hXI, hMI⟩ hS

set_option maxHeartbeats 1000000 in
set_option maxRecDepth 100000 in
theorem lc_harm {p : Program} {l : Launch} {e : Env} {s : State} {m : MethodId} {below : List Frame} {meth : Method} {c : Code} {b L : Nat} {xs : Nat → Int32} {dC : Nat → ClassId} {dI : Nat → Nat → Nat} {G : Nat → ClassId} {ax adK adV : Nat → Nat} {A : Nat → Prop} {Q : State → Prop} (C1 : lw_C p s m c b L xs dC dI G ax adK adV A) {k : Nat} (hk : 5 * k + 5 ≤ L) (hL : L ≤ 2560) {H : Heap} {locs : List Loc} {ls : Array Slot} (hI : LI dC dI G ax H) (hS : va_S A s.heap H locs) (hl : lv_has ls 4 [(3, .int (nI (5 * k))), (2, .ref (ax 112)), (1, .ref (ax 0)), (0, .ref b)]) (kk : ∀ (H : Heap) (locs : List Loc), LI dC dI G ax H → va_S A s.heap H locs → W p l e room_1 s m #[Value.ref b] below meth c H locs 129 4562 Q (F0 m 1382 ls [])) : W p l e room_1 s m #[Value.ref b] below meth c H locs 129 4562 Q (F0 m 583 ls []) := by
  obtain ⟨hx, hb, hml, hown, hg, hX, hbl, hbA, hK, hi, hAx, hA, hSS⟩ := C1
  obtain ⟨T, Y, fa, W0, W1, W2, N, B, N1, B1, N2, B2, K, S, M, E, Z, hXI, hMI⟩ := hI
  refine lv_aload_n hx hb dL_law_583 rfl (lv_at hl 2 rfl) ?_
  refine lv_aload_n hx hb dL_law_584 rfl (lv_at hl 3 rfl) ?_
  refine lv_iload_n hx hb dL_law_585 rfl (lv_at hl 0 rfl) ?_
  refine lv_iconst (v := 1) hx hb dL_law_586 (by decide) ?_
  refine lv_iadd hx hb dL_law_587 ?_
  refine lv_cg (y := nI (5 * k + 1)) (by rw [show (1 : Int32) = nI 1 from rfl]; exact nI_add _ _) ?_
  refine va_sld hx hb hX hbl hbA hS (vp_in_nI (by omega) (by omega)) dL_law_588 ?_
  refine lv_cg (y := xs (5 * k + 1)) (by rw [nI_clamp (by omega)]) ?_
  refine lv_aload_n hx hb dL_law_589 rfl (lv_at hl 3 rfl) ?_
  refine lv_iload_n hx hb dL_law_590 rfl (lv_at hl 0 rfl) ?_
  refine lv_iconst (v := 2) hx hb dL_law_591 (by decide) ?_
  refine lv_iadd hx hb dL_law_592 ?_
  refine lv_cg (y := nI (5 * k + 2)) (by rw [show (2 : Int32) = nI 2 from rfl]; exact nI_add _ _) ?_
  refine va_sld hx hb hX hbl hbA hS (vp_in_nI (by omega) (by omega)) dL_law_593 ?_
  refine lv_cg (y := xs (5 * k + 2)) (by rw [nI_clamp (by omega)]) ?_
  refine lv_aload_n hx hb dL_law_594 rfl (lv_at hl 3 rfl) ?_
  refine lv_iload_n hx hb dL_law_595 rfl (lv_at hl 0 rfl) ?_
  refine lv_iconst (v := 3) hx hb dL_law_596 (by decide) ?_
  refine lv_iadd hx hb dL_law_597 ?_
  refine lv_cg (y := nI (5 * k + 3)) (by rw [show (3 : Int32) = nI 3 from rfl]; exact nI_add _ _) ?_
  refine va_sld hx hb hX hbl hbA hS (vp_in_nI (by omega) (by omega)) dL_law_598 ?_
  refine lv_cg (y := xs (5 * k + 3)) (by rw [nI_clamp (by omega)]) ?_
  refine va_calli (va_runV (As := [.int (xs (5 * k + 1)), .int (xs (5 * k + 2)), .int (xs (5 * k + 3))]) (rest := []) ⟨hx, hb, hml, hown, hg⟩ (k_X10_harmE l dC dI G _ ax hi T Y fa W0 W1 W2 N B N1 B1 N2 B2 K S M E Z (xs (5 * k + 1)) (xs (5 * k + 2)) (xs (5 * k + 3))) (kwV hg mfX10_harm wt_566 ⟨Nat.le_of_ble_eq_true rfl, Nat.le_of_ble_eq_true rfl⟩) (preVI hK hXI (hXI.recv hK)) rfl rfl hl.1 rfl (lv_room (Nat.le_of_ble_eq_true rfl)) dL_law_599 ⟨Nat.le_of_ble_eq_true rfl, Nat.le_of_ble_eq_true rfl⟩) hS (fun q _ h => ad_A hAx hA (by decide) hS q h) (ad_A hAx hA (by decide) hS) (fun r1 u1 t1 H1 locs1 ht1 hv1 w1 hB1 hz1 hk1 hS => ?_)
  have hMI := hMI.kept (fr_ad (lo := 0) (hi := 112) hi (by decide) (by decide) (by decide) hk1)
  have hXI : X10I dC dI G ax T Y fa W0 W1 W2 N B N1 B1 N2 B2 K S M E Z H1 := by rw [← ht1]; exact hB1
  refine W.widen (k := 129) (n := 4562) (by omega) (by omega) ?_
  refine lv_pop hx hb dL_law_602 rfl ?_
  refine lv_aload_n hx hb dL_law_603 rfl (lv_at hl 1 rfl) ?_
  refine lv_aload_n hx hb dL_law_604 rfl (lv_at hl 3 rfl) ?_
  refine lv_iload_n hx hb dL_law_605 rfl (lv_at hl 0 rfl) ?_
  refine lv_iconst (v := 1) hx hb dL_law_606 (by decide) ?_
  refine lv_iadd hx hb dL_law_607 ?_
  refine lv_cg (y := nI (5 * k + 1)) (by rw [show (1 : Int32) = nI 1 from rfl]; exact nI_add _ _) ?_
  refine va_sld hx hb hX hbl hbA hS (vp_in_nI (by omega) (by omega)) dL_law_608 ?_
  refine lv_cg (y := xs (5 * k + 1)) (by rw [nI_clamp (by omega)]) ?_
  refine lv_aload_n hx hb dL_law_609 rfl (lv_at hl 3 rfl) ?_
  refine lv_iload_n hx hb dL_law_610 rfl (lv_at hl 0 rfl) ?_
  refine lv_iconst (v := 2) hx hb dL_law_611 (by decide) ?_
  refine lv_iadd hx hb dL_law_612 ?_
  refine lv_cg (y := nI (5 * k + 2)) (by rw [show (2 : Int32) = nI 2 from rfl]; exact nI_add _ _) ?_
  refine va_sld hx hb hX hbl hbA hS (vp_in_nI (by omega) (by omega)) dL_law_613 ?_
  refine lv_cg (y := xs (5 * k + 2)) (by rw [nI_clamp (by omega)]) ?_
  refine lv_aload_n hx hb dL_law_614 rfl (lv_at hl 3 rfl) ?_
  refine lv_iload_n hx hb dL_law_615 rfl (lv_at hl 0 rfl) ?_
  refine lv_iconst (v := 3) hx hb dL_law_616 (by decide) ?_
  refine lv_iadd hx hb dL_law_617 ?_
  refine lv_cg (y := nI (5 * k + 3)) (by rw [show (3 : Int32) = nI 3 from rfl]; exact nI_add _ _) ?_
  refine va_sld hx hb hX hbl hbA hS (vp_in_nI (by omega) (by omega)) dL_law_618 ?_
  refine lv_cg (y := xs (5 * k + 3)) (by rw [nI_clamp (by omega)]) ?_
  refine va_calli (va_runV (As := [.int (xs (5 * k + 1)), .int (xs (5 * k + 2)), .int (xs (5 * k + 3))]) (rest := []) ⟨hx, hb, hml, hown, hg⟩ (k_X11_harmE l dC dI G _ ax hi T Y fa W0 W1 W2 N B N1 B1 N2 B2 K S M E Z (xs (5 * k + 1)) (xs (5 * k + 2)) (xs (5 * k + 3))) (kwV hg mfX11_harm wt_1098 ⟨Nat.le_of_ble_eq_true rfl, Nat.le_of_ble_eq_true rfl⟩) (preVI hK hMI (hMI.recv hK)) rfl rfl hl.1 rfl (lv_room (Nat.le_of_ble_eq_true rfl)) dL_law_619 ⟨Nat.le_of_ble_eq_true rfl, Nat.le_of_ble_eq_true rfl⟩) hS (fun q _ h => ad_A hAx hA (by decide) hS q h) (ad_A hAx hA (by decide) hS) (fun r2 u2 t2 H2 locs2 ht2 hv2 w2 hB2 hz2 hk2 hS => ?_)
  have hXI := hXI.kept (fr_ad (lo := 112) (hi := 129) hi (by decide) (by decide) (by decide) hk2)
  have hMI : X11I dC dI G ax T Y fa W0 W1 W2 N B N1 B1 N2 B2 K S M E Z H2 := by rw [← ht2]; exact hB2
  refine W.widen (k := 129) (n := 4562) (by omega) (by omega) ?_
  refine lv_pop hx hb dL_law_622 rfl ?_
  refine lv_goto (tgt := 1382) hx hb dL_law_623 (by decide) ?_
  exact kk _ _ ⟨_, _, _, _, _, _, _, _, _, _, _, _, _, _, _, _, _, hXI, hMI⟩ hS

set_option maxHeartbeats 1000000 in
set_option maxRecDepth 100000 in
theorem lc_wakes {p : Program} {l : Launch} {e : Env} {s : State} {m : MethodId} {below : List Frame} {meth : Method} {c : Code} {b L : Nat} {xs : Nat → Int32} {dC : Nat → ClassId} {dI : Nat → Nat → Nat} {G : Nat → ClassId} {ax adK adV : Nat → Nat} {A : Nat → Prop} {Q : State → Prop} (C1 : lw_C p s m c b L xs dC dI G ax adK adV A) {k : Nat} (hk : 5 * k + 5 ≤ L) (hL : L ≤ 2560) {H : Heap} {locs : List Loc} {ls : Array Slot} (hI : LI dC dI G ax H) (hS : va_S A s.heap H locs) (hl : lv_has ls 4 [(3, .int (nI (5 * k))), (2, .ref (ax 112)), (1, .ref (ax 0)), (0, .ref b)]) (kk : ∀ (H : Heap) (locs : List Loc), LI dC dI G ax H → va_S A s.heap H locs → W p l e room_1 s m #[Value.ref b] below meth c H locs 129 4562 Q (F0 m 1382 ls [])) : W p l e room_1 s m #[Value.ref b] below meth c H locs 129 4562 Q (F0 m 626 ls []) := by
  obtain ⟨hx, hb, hml, hown, hg, hX, hbl, hbA, hK, hi, hAx, hA, hSS⟩ := C1
  obtain ⟨T, Y, fa, W0, W1, W2, N, B, N1, B1, N2, B2, K, S, M, E, Z, hXI, hMI⟩ := hI
  refine lv_aload_n hx hb dL_law_626 rfl (lv_at hl 2 rfl) ?_
  refine lv_aload_n hx hb dL_law_627 rfl (lv_at hl 3 rfl) ?_
  refine lv_iload_n hx hb dL_law_628 rfl (lv_at hl 0 rfl) ?_
  refine lv_iconst (v := 1) hx hb dL_law_629 (by decide) ?_
  refine lv_iadd hx hb dL_law_630 ?_
  refine lv_cg (y := nI (5 * k + 1)) (by rw [show (1 : Int32) = nI 1 from rfl]; exact nI_add _ _) ?_
  refine va_sld hx hb hX hbl hbA hS (vp_in_nI (by omega) (by omega)) dL_law_631 ?_
  refine lv_cg (y := xs (5 * k + 1)) (by rw [nI_clamp (by omega)]) ?_
  refine va_calll (va_runV (As := [.int (xs (5 * k + 1))]) (rest := []) ⟨hx, hb, hml, hown, hg⟩ (k_X10_wakes l dC dI G _ ax hi T Y fa W0 W1 W2 N B N1 B1 N2 B2 K S M E Z (xs (5 * k + 1))) (kwV hg mfX10_wakes wt_600 ⟨Nat.le_of_ble_eq_true rfl, Nat.le_of_ble_eq_true rfl⟩) (preVI hK hXI (hXI.recv hK)) rfl rfl hl.1 rfl (lv_room (Nat.le_of_ble_eq_true rfl)) dL_law_632 ⟨Nat.le_of_ble_eq_true rfl, Nat.le_of_ble_eq_true rfl⟩) hS (fun q _ h => ad_A hAx hA (by decide) hS q h) (ad_A hAx hA (by decide) hS) (fun r1 u1 t1 H1 locs1 ht1 hv1 w1 hB1 hz1 hk1 hS => ?_)
  have hMI := hMI.kept (fr_ad (lo := 0) (hi := 112) hi (by decide) (by decide) (by decide) hk1)
  have hXI : X10I dC dI G ax T Y fa W0 W1 W2 N B N1 B1 N2 B2 K S M E Z H1 := by rw [← ht1]; exact hB1
  refine W.widen (k := 129) (n := 4562) (by omega) (by omega) ?_
  refine lv_pop2_2 hx hb dL_law_635 rfl ?_
  refine lv_aload_n hx hb dL_law_636 rfl (lv_at hl 1 rfl) ?_
  refine lv_aload_n hx hb dL_law_637 rfl (lv_at hl 3 rfl) ?_
  refine lv_iload_n hx hb dL_law_638 rfl (lv_at hl 0 rfl) ?_
  refine lv_iconst (v := 1) hx hb dL_law_639 (by decide) ?_
  refine lv_iadd hx hb dL_law_640 ?_
  refine lv_cg (y := nI (5 * k + 1)) (by rw [show (1 : Int32) = nI 1 from rfl]; exact nI_add _ _) ?_
  refine va_sld hx hb hX hbl hbA hS (vp_in_nI (by omega) (by omega)) dL_law_641 ?_
  refine lv_cg (y := xs (5 * k + 1)) (by rw [nI_clamp (by omega)]) ?_
  refine va_calll (va_runV (As := [.int (xs (5 * k + 1))]) (rest := []) ⟨hx, hb, hml, hown, hg⟩ (k_X11_wakes l dC dI G _ ax hi T Y fa W0 W1 W2 N B N1 B1 N2 B2 K S M E Z (xs (5 * k + 1))) (kwV hg mfX11_wakes wt_1114 ⟨Nat.le_of_ble_eq_true rfl, Nat.le_of_ble_eq_true rfl⟩) (preVI hK hMI (hMI.recv hK)) rfl rfl hl.1 rfl (lv_room (Nat.le_of_ble_eq_true rfl)) dL_law_642 ⟨Nat.le_of_ble_eq_true rfl, Nat.le_of_ble_eq_true rfl⟩) hS (fun q _ h => ad_A hAx hA (by decide) hS q h) (ad_A hAx hA (by decide) hS) (fun r2 u2 t2 H2 locs2 ht2 hv2 w2 hB2 hz2 hk2 hS => ?_)
  have hXI := hXI.kept (fr_ad (lo := 112) (hi := 129) hi (by decide) (by decide) (by decide) hk2)
  have hMI : X11I dC dI G ax T Y fa W0 W1 W2 N B N1 B1 N2 B2 K S M E Z H2 := by rw [← ht2]; exact hB2
  refine W.widen (k := 129) (n := 4562) (by omega) (by omega) ?_
  refine lv_pop2_2 hx hb dL_law_645 rfl ?_
  refine lv_goto (tgt := 1382) hx hb dL_law_646 (by decide) ?_
  exact kk _ _ ⟨_, _, _, _, _, _, _, _, _, _, _, _, _, _, _, _, _, hXI, hMI⟩ hS

set_option maxHeartbeats 1000000 in
set_option maxRecDepth 100000 in
theorem lc_awake {p : Program} {l : Launch} {e : Env} {s : State} {m : MethodId} {below : List Frame} {meth : Method} {c : Code} {b L : Nat} {xs : Nat → Int32} {dC : Nat → ClassId} {dI : Nat → Nat → Nat} {G : Nat → ClassId} {ax adK adV : Nat → Nat} {A : Nat → Prop} {Q : State → Prop} (C1 : lw_C p s m c b L xs dC dI G ax adK adV A) {k : Nat} (hk : 5 * k + 5 ≤ L) (hL : L ≤ 2560) {H : Heap} {locs : List Loc} {ls : Array Slot} (hI : LI dC dI G ax H) (hS : va_S A s.heap H locs) (hl : lv_has ls 4 [(3, .int (nI (5 * k))), (2, .ref (ax 112)), (1, .ref (ax 0)), (0, .ref b)]) (kk : ∀ (H : Heap) (locs : List Loc), LI dC dI G ax H → va_S A s.heap H locs → W p l e room_1 s m #[Value.ref b] below meth c H locs 129 4562 Q (F0 m 1382 ls [])) : W p l e room_1 s m #[Value.ref b] below meth c H locs 129 4562 Q (F0 m 649 ls []) := by
  obtain ⟨hx, hb, hml, hown, hg, hX, hbl, hbA, hK, hi, hAx, hA, hSS⟩ := C1
  obtain ⟨T, Y, fa, W0, W1, W2, N, B, N1, B1, N2, B2, K, S, M, E, Z, hXI, hMI⟩ := hI
  refine lv_aload_n hx hb dL_law_649 rfl (lv_at hl 2 rfl) ?_
  refine lv_aload_n hx hb dL_law_650 rfl (lv_at hl 3 rfl) ?_
  refine lv_iload_n hx hb dL_law_651 rfl (lv_at hl 0 rfl) ?_
  refine lv_iconst (v := 1) hx hb dL_law_652 (by decide) ?_
  refine lv_iadd hx hb dL_law_653 ?_
  refine lv_cg (y := nI (5 * k + 1)) (by rw [show (1 : Int32) = nI 1 from rfl]; exact nI_add _ _) ?_
  refine va_sld hx hb hX hbl hbA hS (vp_in_nI (by omega) (by omega)) dL_law_654 ?_
  refine lv_cg (y := xs (5 * k + 1)) (by rw [nI_clamp (by omega)]) ?_
  refine lv_aload_n hx hb dL_law_655 rfl (lv_at hl 3 rfl) ?_
  refine lv_iload_n hx hb dL_law_656 rfl (lv_at hl 0 rfl) ?_
  refine lv_iconst (v := 2) hx hb dL_law_657 (by decide) ?_
  refine lv_iadd hx hb dL_law_658 ?_
  refine lv_cg (y := nI (5 * k + 2)) (by rw [show (2 : Int32) = nI 2 from rfl]; exact nI_add _ _) ?_
  refine va_sld hx hb hX hbl hbA hS (vp_in_nI (by omega) (by omega)) dL_law_659 ?_
  refine lv_cg (y := xs (5 * k + 2)) (by rw [nI_clamp (by omega)]) ?_
  refine va_calll (va_runV (As := [.int (xs (5 * k + 1)), .int (xs (5 * k + 2))]) (rest := []) ⟨hx, hb, hml, hown, hg⟩ (k_X10_awake l dC dI G _ ax hi T Y fa W0 W1 W2 N B N1 B1 N2 B2 K S M E Z (xs (5 * k + 1)) (xs (5 * k + 2))) (kwV hg mfX10_awake wt_641 ⟨Nat.le_of_ble_eq_true rfl, Nat.le_of_ble_eq_true rfl⟩) (preVI hK hXI (hXI.recv hK)) rfl rfl hl.1 rfl (lv_room (Nat.le_of_ble_eq_true rfl)) dL_law_660 ⟨Nat.le_of_ble_eq_true rfl, Nat.le_of_ble_eq_true rfl⟩) hS (fun q _ h => ad_A hAx hA (by decide) hS q h) (ad_A hAx hA (by decide) hS) (fun r1 u1 t1 H1 locs1 ht1 hv1 w1 hB1 hz1 hk1 hS => ?_)
  have hMI := hMI.kept (fr_ad (lo := 0) (hi := 112) hi (by decide) (by decide) (by decide) hk1)
  have hXI : X10I dC dI G ax T Y fa W0 W1 W2 N B N1 B1 N2 B2 K S M E Z H1 := by rw [← ht1]; exact hB1
  refine W.widen (k := 129) (n := 4562) (by omega) (by omega) ?_
  refine lv_pop2_2 hx hb dL_law_663 rfl ?_
  refine lv_aload_n hx hb dL_law_664 rfl (lv_at hl 1 rfl) ?_
  refine lv_aload_n hx hb dL_law_665 rfl (lv_at hl 3 rfl) ?_
  refine lv_iload_n hx hb dL_law_666 rfl (lv_at hl 0 rfl) ?_
  refine lv_iconst (v := 1) hx hb dL_law_667 (by decide) ?_
  refine lv_iadd hx hb dL_law_668 ?_
  refine lv_cg (y := nI (5 * k + 1)) (by rw [show (1 : Int32) = nI 1 from rfl]; exact nI_add _ _) ?_
  refine va_sld hx hb hX hbl hbA hS (vp_in_nI (by omega) (by omega)) dL_law_669 ?_
  refine lv_cg (y := xs (5 * k + 1)) (by rw [nI_clamp (by omega)]) ?_
  refine lv_aload_n hx hb dL_law_670 rfl (lv_at hl 3 rfl) ?_
  refine lv_iload_n hx hb dL_law_671 rfl (lv_at hl 0 rfl) ?_
  refine lv_iconst (v := 2) hx hb dL_law_672 (by decide) ?_
  refine lv_iadd hx hb dL_law_673 ?_
  refine lv_cg (y := nI (5 * k + 2)) (by rw [show (2 : Int32) = nI 2 from rfl]; exact nI_add _ _) ?_
  refine va_sld hx hb hX hbl hbA hS (vp_in_nI (by omega) (by omega)) dL_law_674 ?_
  refine lv_cg (y := xs (5 * k + 2)) (by rw [nI_clamp (by omega)]) ?_
  refine va_calll (va_runV (As := [.int (xs (5 * k + 1)), .int (xs (5 * k + 2))]) (rest := []) ⟨hx, hb, hml, hown, hg⟩ (k_X11_awake l dC dI G _ ax hi T Y fa W0 W1 W2 N B N1 B1 N2 B2 K S M E Z (xs (5 * k + 1)) (xs (5 * k + 2))) (kwV hg mfX11_awake wt_1137 ⟨Nat.le_of_ble_eq_true rfl, Nat.le_of_ble_eq_true rfl⟩) (preVI hK hMI (hMI.recv hK)) rfl rfl hl.1 rfl (lv_room (Nat.le_of_ble_eq_true rfl)) dL_law_675 ⟨Nat.le_of_ble_eq_true rfl, Nat.le_of_ble_eq_true rfl⟩) hS (fun q _ h => ad_A hAx hA (by decide) hS q h) (ad_A hAx hA (by decide) hS) (fun r2 u2 t2 H2 locs2 ht2 hv2 w2 hB2 hz2 hk2 hS => ?_)
  have hXI := hXI.kept (fr_ad (lo := 112) (hi := 129) hi (by decide) (by decide) (by decide) hk2)
  have hMI : X11I dC dI G ax T Y fa W0 W1 W2 N B N1 B1 N2 B2 K S M E Z H2 := by rw [← ht2]; exact hB2
  refine W.widen (k := 129) (n := 4562) (by omega) (by omega) ?_
  refine lv_pop2_2 hx hb dL_law_678 rfl ?_
  refine lv_goto (tgt := 1382) hx hb dL_law_679 (by decide) ?_
  exact kk _ _ ⟨_, _, _, _, _, _, _, _, _, _, _, _, _, _, _, _, _, hXI, hMI⟩ hS

set_option maxHeartbeats 1000000 in
set_option maxRecDepth 100000 in
theorem lc_depth {p : Program} {l : Launch} {e : Env} {s : State} {m : MethodId} {below : List Frame} {meth : Method} {c : Code} {b L : Nat} {xs : Nat → Int32} {dC : Nat → ClassId} {dI : Nat → Nat → Nat} {G : Nat → ClassId} {ax adK adV : Nat → Nat} {A : Nat → Prop} {Q : State → Prop} (C1 : lw_C p s m c b L xs dC dI G ax adK adV A) {k : Nat} (hk : 5 * k + 5 ≤ L) (hL : L ≤ 2560) {H : Heap} {locs : List Loc} {ls : Array Slot} (hI : LI dC dI G ax H) (hS : va_S A s.heap H locs) (hl : lv_has ls 4 [(3, .int (nI (5 * k))), (2, .ref (ax 112)), (1, .ref (ax 0)), (0, .ref b)]) (kk : ∀ (H : Heap) (locs : List Loc), LI dC dI G ax H → va_S A s.heap H locs → W p l e room_1 s m #[Value.ref b] below meth c H locs 129 4562 Q (F0 m 1382 ls [])) : W p l e room_1 s m #[Value.ref b] below meth c H locs 129 4562 Q (F0 m 682 ls []) := by
  obtain ⟨hx, hb, hml, hown, hg, hX, hbl, hbA, hK, hi, hAx, hA, hSS⟩ := C1
  obtain ⟨T, Y, fa, W0, W1, W2, N, B, N1, B1, N2, B2, K, S, M, E, Z, hXI, hMI⟩ := hI
  refine lv_aload_n hx hb dL_law_682 rfl (lv_at hl 2 rfl) ?_
  refine lv_aload_n hx hb dL_law_683 rfl (lv_at hl 3 rfl) ?_
  refine lv_iload_n hx hb dL_law_684 rfl (lv_at hl 0 rfl) ?_
  refine lv_iconst (v := 1) hx hb dL_law_685 (by decide) ?_
  refine lv_iadd hx hb dL_law_686 ?_
  refine lv_cg (y := nI (5 * k + 1)) (by rw [show (1 : Int32) = nI 1 from rfl]; exact nI_add _ _) ?_
  refine va_sld hx hb hX hbl hbA hS (vp_in_nI (by omega) (by omega)) dL_law_687 ?_
  refine lv_cg (y := xs (5 * k + 1)) (by rw [nI_clamp (by omega)]) ?_
  refine lv_aload_n hx hb dL_law_688 rfl (lv_at hl 3 rfl) ?_
  refine lv_iload_n hx hb dL_law_689 rfl (lv_at hl 0 rfl) ?_
  refine lv_iconst (v := 2) hx hb dL_law_690 (by decide) ?_
  refine lv_iadd hx hb dL_law_691 ?_
  refine lv_cg (y := nI (5 * k + 2)) (by rw [show (2 : Int32) = nI 2 from rfl]; exact nI_add _ _) ?_
  refine va_sld hx hb hX hbl hbA hS (vp_in_nI (by omega) (by omega)) dL_law_692 ?_
  refine lv_cg (y := xs (5 * k + 2)) (by rw [nI_clamp (by omega)]) ?_
  refine lv_aload_n hx hb dL_law_693 rfl (lv_at hl 3 rfl) ?_
  refine lv_iload_n hx hb dL_law_694 rfl (lv_at hl 0 rfl) ?_
  refine lv_iconst (v := 3) hx hb dL_law_695 (by decide) ?_
  refine lv_iadd hx hb dL_law_696 ?_
  refine lv_cg (y := nI (5 * k + 3)) (by rw [show (3 : Int32) = nI 3 from rfl]; exact nI_add _ _) ?_
  refine va_sld hx hb hX hbl hbA hS (vp_in_nI (by omega) (by omega)) dL_law_697 ?_
  refine lv_cg (y := xs (5 * k + 3)) (by rw [nI_clamp (by omega)]) ?_
  refine va_calll (va_runV (As := [.int (xs (5 * k + 1)), .int (xs (5 * k + 2)), .int (xs (5 * k + 3))]) (rest := []) ⟨hx, hb, hml, hown, hg⟩ (k_X10_depth l dC dI G _ ax hi T Y fa W0 W1 W2 N B N1 B1 N2 B2 K S M E Z (xs (5 * k + 1)) (xs (5 * k + 2)) (xs (5 * k + 3))) (kwV hg mfX10_depth wt_652 ⟨Nat.le_of_ble_eq_true rfl, Nat.le_of_ble_eq_true rfl⟩) (preVI hK hXI (hXI.recv hK)) rfl rfl hl.1 rfl (lv_room (Nat.le_of_ble_eq_true rfl)) dL_law_698 ⟨Nat.le_of_ble_eq_true rfl, Nat.le_of_ble_eq_true rfl⟩) hS (fun q _ h => ad_A hAx hA (by decide) hS q h) (ad_A hAx hA (by decide) hS) (fun r1 u1 t1 H1 locs1 ht1 hv1 w1 hB1 hz1 hk1 hS => ?_)
  have hMI := hMI.kept (fr_ad (lo := 0) (hi := 112) hi (by decide) (by decide) (by decide) hk1)
  have hXI : X10I dC dI G ax T Y fa W0 W1 W2 N B N1 B1 N2 B2 K S M E Z H1 := by rw [← ht1]; exact hB1
  refine W.widen (k := 129) (n := 4562) (by omega) (by omega) ?_
  refine lv_pop2_2 hx hb dL_law_701 rfl ?_
  refine lv_aload_n hx hb dL_law_702 rfl (lv_at hl 1 rfl) ?_
  refine lv_aload_n hx hb dL_law_703 rfl (lv_at hl 3 rfl) ?_
  refine lv_iload_n hx hb dL_law_704 rfl (lv_at hl 0 rfl) ?_
  refine lv_iconst (v := 1) hx hb dL_law_705 (by decide) ?_
  refine lv_iadd hx hb dL_law_706 ?_
  refine lv_cg (y := nI (5 * k + 1)) (by rw [show (1 : Int32) = nI 1 from rfl]; exact nI_add _ _) ?_
  refine va_sld hx hb hX hbl hbA hS (vp_in_nI (by omega) (by omega)) dL_law_707 ?_
  refine lv_cg (y := xs (5 * k + 1)) (by rw [nI_clamp (by omega)]) ?_
  refine lv_aload_n hx hb dL_law_708 rfl (lv_at hl 3 rfl) ?_
  refine lv_iload_n hx hb dL_law_709 rfl (lv_at hl 0 rfl) ?_
  refine lv_iconst (v := 2) hx hb dL_law_710 (by decide) ?_
  refine lv_iadd hx hb dL_law_711 ?_
  refine lv_cg (y := nI (5 * k + 2)) (by rw [show (2 : Int32) = nI 2 from rfl]; exact nI_add _ _) ?_
  refine va_sld hx hb hX hbl hbA hS (vp_in_nI (by omega) (by omega)) dL_law_712 ?_
  refine lv_cg (y := xs (5 * k + 2)) (by rw [nI_clamp (by omega)]) ?_
  refine lv_aload_n hx hb dL_law_713 rfl (lv_at hl 3 rfl) ?_
  refine lv_iload_n hx hb dL_law_714 rfl (lv_at hl 0 rfl) ?_
  refine lv_iconst (v := 3) hx hb dL_law_715 (by decide) ?_
  refine lv_iadd hx hb dL_law_716 ?_
  refine lv_cg (y := nI (5 * k + 3)) (by rw [show (3 : Int32) = nI 3 from rfl]; exact nI_add _ _) ?_
  refine va_sld hx hb hX hbl hbA hS (vp_in_nI (by omega) (by omega)) dL_law_717 ?_
  refine lv_cg (y := xs (5 * k + 3)) (by rw [nI_clamp (by omega)]) ?_
  refine va_calll (va_runV (As := [.int (xs (5 * k + 1)), .int (xs (5 * k + 2)), .int (xs (5 * k + 3))]) (rest := []) ⟨hx, hb, hml, hown, hg⟩ (k_X11_depth l dC dI G _ ax hi T Y fa W0 W1 W2 N B N1 B1 N2 B2 K S M E Z (xs (5 * k + 1)) (xs (5 * k + 2)) (xs (5 * k + 3))) (kwV hg mfX11_depth wt_1145 ⟨Nat.le_of_ble_eq_true rfl, Nat.le_of_ble_eq_true rfl⟩) (preVI hK hMI (hMI.recv hK)) rfl rfl hl.1 rfl (lv_room (Nat.le_of_ble_eq_true rfl)) dL_law_718 ⟨Nat.le_of_ble_eq_true rfl, Nat.le_of_ble_eq_true rfl⟩) hS (fun q _ h => ad_A hAx hA (by decide) hS q h) (ad_A hAx hA (by decide) hS) (fun r2 u2 t2 H2 locs2 ht2 hv2 w2 hB2 hz2 hk2 hS => ?_)
  have hXI := hXI.kept (fr_ad (lo := 112) (hi := 129) hi (by decide) (by decide) (by decide) hk2)
  have hMI : X11I dC dI G ax T Y fa W0 W1 W2 N B N1 B1 N2 B2 K S M E Z H2 := by rw [← ht2]; exact hB2
  refine W.widen (k := 129) (n := 4562) (by omega) (by omega) ?_
  refine lv_pop2_2 hx hb dL_law_721 rfl ?_
  refine lv_goto (tgt := 1382) hx hb dL_law_722 (by decide) ?_
  exact kk _ _ ⟨_, _, _, _, _, _, _, _, _, _, _, _, _, _, _, _, _, hXI, hMI⟩ hS

set_option maxHeartbeats 1000000 in
set_option maxRecDepth 100000 in
theorem lc_best {p : Program} {l : Launch} {e : Env} {s : State} {m : MethodId} {below : List Frame} {meth : Method} {c : Code} {b L : Nat} {xs : Nat → Int32} {dC : Nat → ClassId} {dI : Nat → Nat → Nat} {G : Nat → ClassId} {ax adK adV : Nat → Nat} {A : Nat → Prop} {Q : State → Prop} (C1 : lw_C p s m c b L xs dC dI G ax adK adV A) {k : Nat} (hk : 5 * k + 5 ≤ L) (hL : L ≤ 2560) {H : Heap} {locs : List Loc} {ls : Array Slot} (hI : LI dC dI G ax H) (hS : va_S A s.heap H locs) (hl : lv_has ls 4 [(3, .int (nI (5 * k))), (2, .ref (ax 112)), (1, .ref (ax 0)), (0, .ref b)]) (kk : ∀ (H : Heap) (locs : List Loc), LI dC dI G ax H → va_S A s.heap H locs → W p l e room_1 s m #[Value.ref b] below meth c H locs 129 4562 Q (F0 m 1382 ls [])) : W p l e room_1 s m #[Value.ref b] below meth c H locs 129 4562 Q (F0 m 725 ls []) := by
  obtain ⟨hx, hb, hml, hown, hg, hX, hbl, hbA, hK, hi, hAx, hA, hSS⟩ := C1
  obtain ⟨T, Y, fa, W0, W1, W2, N, B, N1, B1, N2, B2, K, S, M, E, Z, hXI, hMI⟩ := hI
  refine lv_aload_n hx hb dL_law_725 rfl (lv_at hl 2 rfl) ?_
  refine lv_aload_n hx hb dL_law_726 rfl (lv_at hl 3 rfl) ?_
  refine lv_iload_n hx hb dL_law_727 rfl (lv_at hl 0 rfl) ?_
  refine lv_iconst (v := 1) hx hb dL_law_728 (by decide) ?_
  refine lv_iadd hx hb dL_law_729 ?_
  refine lv_cg (y := nI (5 * k + 1)) (by rw [show (1 : Int32) = nI 1 from rfl]; exact nI_add _ _) ?_
  refine va_sld hx hb hX hbl hbA hS (vp_in_nI (by omega) (by omega)) dL_law_730 ?_
  refine lv_cg (y := xs (5 * k + 1)) (by rw [nI_clamp (by omega)]) ?_
  refine va_calll (va_runV (As := [.int (xs (5 * k + 1))]) (rest := []) ⟨hx, hb, hml, hown, hg⟩ (k_X10_best l dC dI G _ ax hi T Y fa W0 W1 W2 N B N1 B1 N2 B2 K S M E Z (xs (5 * k + 1))) (kwV hg mfX10_best wt_653 ⟨Nat.le_of_ble_eq_true rfl, Nat.le_of_ble_eq_true rfl⟩) (preVI hK hXI (hXI.recv hK)) rfl rfl hl.1 rfl (lv_room (Nat.le_of_ble_eq_true rfl)) dL_law_731 ⟨Nat.le_of_ble_eq_true rfl, Nat.le_of_ble_eq_true rfl⟩) hS (fun q _ h => ad_A hAx hA (by decide) hS q h) (ad_A hAx hA (by decide) hS) (fun r1 u1 t1 H1 locs1 ht1 hv1 w1 hB1 hz1 hk1 hS => ?_)
  have hMI := hMI.kept (fr_ad (lo := 0) (hi := 112) hi (by decide) (by decide) (by decide) hk1)
  have hXI : X10I dC dI G ax T Y fa W0 W1 W2 N B N1 B1 N2 B2 K S M E Z H1 := by rw [← ht1]; exact hB1
  refine W.widen (k := 129) (n := 4562) (by omega) (by omega) ?_
  refine lv_pop2_2 hx hb dL_law_734 rfl ?_
  refine lv_aload_n hx hb dL_law_735 rfl (lv_at hl 1 rfl) ?_
  refine lv_aload_n hx hb dL_law_736 rfl (lv_at hl 3 rfl) ?_
  refine lv_iload_n hx hb dL_law_737 rfl (lv_at hl 0 rfl) ?_
  refine lv_iconst (v := 1) hx hb dL_law_738 (by decide) ?_
  refine lv_iadd hx hb dL_law_739 ?_
  refine lv_cg (y := nI (5 * k + 1)) (by rw [show (1 : Int32) = nI 1 from rfl]; exact nI_add _ _) ?_
  refine va_sld hx hb hX hbl hbA hS (vp_in_nI (by omega) (by omega)) dL_law_740 ?_
  refine lv_cg (y := xs (5 * k + 1)) (by rw [nI_clamp (by omega)]) ?_
  refine va_calll (va_runV (As := [.int (xs (5 * k + 1))]) (rest := []) ⟨hx, hb, hml, hown, hg⟩ (k_X11_best l dC dI G _ ax hi T Y fa W0 W1 W2 N B N1 B1 N2 B2 K S M E Z (xs (5 * k + 1))) (kwV hg mfX11_best wt_1146 ⟨Nat.le_of_ble_eq_true rfl, Nat.le_of_ble_eq_true rfl⟩) (preVI hK hMI (hMI.recv hK)) rfl rfl hl.1 rfl (lv_room (Nat.le_of_ble_eq_true rfl)) dL_law_741 ⟨Nat.le_of_ble_eq_true rfl, Nat.le_of_ble_eq_true rfl⟩) hS (fun q _ h => ad_A hAx hA (by decide) hS q h) (ad_A hAx hA (by decide) hS) (fun r2 u2 t2 H2 locs2 ht2 hv2 w2 hB2 hz2 hk2 hS => ?_)
  have hXI := hXI.kept (fr_ad (lo := 112) (hi := 129) hi (by decide) (by decide) (by decide) hk2)
  have hMI : X11I dC dI G ax T Y fa W0 W1 W2 N B N1 B1 N2 B2 K S M E Z H2 := by rw [← ht2]; exact hB2
  refine W.widen (k := 129) (n := 4562) (by omega) (by omega) ?_
  refine lv_pop2_2 hx hb dL_law_744 rfl ?_
  refine lv_goto (tgt := 1382) hx hb dL_law_745 (by decide) ?_
  exact kk _ _ ⟨_, _, _, _, _, _, _, _, _, _, _, _, _, _, _, _, _, hXI, hMI⟩ hS

set_option maxHeartbeats 1000000 in
set_option maxRecDepth 100000 in
theorem lc_next {p : Program} {l : Launch} {e : Env} {s : State} {m : MethodId} {below : List Frame} {meth : Method} {c : Code} {b L : Nat} {xs : Nat → Int32} {dC : Nat → ClassId} {dI : Nat → Nat → Nat} {G : Nat → ClassId} {ax adK adV : Nat → Nat} {A : Nat → Prop} {Q : State → Prop} (C1 : lw_C p s m c b L xs dC dI G ax adK adV A) {k : Nat} (hk : 5 * k + 5 ≤ L) (hL : L ≤ 2560) {H : Heap} {locs : List Loc} {ls : Array Slot} (hI : LI dC dI G ax H) (hS : va_S A s.heap H locs) (hl : lv_has ls 4 [(3, .int (nI (5 * k))), (2, .ref (ax 112)), (1, .ref (ax 0)), (0, .ref b)]) (kk : ∀ (H : Heap) (locs : List Loc), LI dC dI G ax H → va_S A s.heap H locs → W p l e room_1 s m #[Value.ref b] below meth c H locs 129 4562 Q (F0 m 1382 ls [])) : W p l e room_1 s m #[Value.ref b] below meth c H locs 129 4562 Q (F0 m 748 ls []) := by
  obtain ⟨hx, hb, hml, hown, hg, hX, hbl, hbA, hK, hi, hAx, hA, hSS⟩ := C1
  obtain ⟨T, Y, fa, W0, W1, W2, N, B, N1, B1, N2, B2, K, S, M, E, Z, hXI, hMI⟩ := hI
  refine lv_aload_n hx hb dL_law_748 rfl (lv_at hl 2 rfl) ?_
  refine lv_aload_n hx hb dL_law_749 rfl (lv_at hl 3 rfl) ?_
  refine lv_iload_n hx hb dL_law_750 rfl (lv_at hl 0 rfl) ?_
  refine lv_iconst (v := 1) hx hb dL_law_751 (by decide) ?_
  refine lv_iadd hx hb dL_law_752 ?_
  refine lv_cg (y := nI (5 * k + 1)) (by rw [show (1 : Int32) = nI 1 from rfl]; exact nI_add _ _) ?_
  refine va_sld hx hb hX hbl hbA hS (vp_in_nI (by omega) (by omega)) dL_law_753 ?_
  refine lv_cg (y := xs (5 * k + 1)) (by rw [nI_clamp (by omega)]) ?_
  refine lv_aload_n hx hb dL_law_754 rfl (lv_at hl 3 rfl) ?_
  refine lv_iload_n hx hb dL_law_755 rfl (lv_at hl 0 rfl) ?_
  refine lv_iconst (v := 2) hx hb dL_law_756 (by decide) ?_
  refine lv_iadd hx hb dL_law_757 ?_
  refine lv_cg (y := nI (5 * k + 2)) (by rw [show (2 : Int32) = nI 2 from rfl]; exact nI_add _ _) ?_
  refine va_sld hx hb hX hbl hbA hS (vp_in_nI (by omega) (by omega)) dL_law_758 ?_
  refine lv_cg (y := xs (5 * k + 2)) (by rw [nI_clamp (by omega)]) ?_
  refine lv_aload_n hx hb dL_law_759 rfl (lv_at hl 3 rfl) ?_
  refine lv_iload_n hx hb dL_law_760 rfl (lv_at hl 0 rfl) ?_
  refine lv_iconst (v := 3) hx hb dL_law_761 (by decide) ?_
  refine lv_iadd hx hb dL_law_762 ?_
  refine lv_cg (y := nI (5 * k + 3)) (by rw [show (3 : Int32) = nI 3 from rfl]; exact nI_add _ _) ?_
  refine va_sld hx hb hX hbl hbA hS (vp_in_nI (by omega) (by omega)) dL_law_763 ?_
  refine lv_cg (y := xs (5 * k + 3)) (by rw [nI_clamp (by omega)]) ?_
  refine va_calli (va_runV (As := [.int (xs (5 * k + 1)), .int (xs (5 * k + 2)), .int (xs (5 * k + 3))]) (rest := []) ⟨hx, hb, hml, hown, hg⟩ (k_X10_next l dC dI G _ ax hi T Y fa W0 W1 W2 N B N1 B1 N2 B2 K S M E Z (xs (5 * k + 1)) (xs (5 * k + 2)) (xs (5 * k + 3))) (kwV hg mfX10_next wt_680 ⟨Nat.le_of_ble_eq_true rfl, Nat.le_of_ble_eq_true rfl⟩) (preVI hK hXI (hXI.recv hK)) rfl rfl hl.1 rfl (lv_room (Nat.le_of_ble_eq_true rfl)) dL_law_764 ⟨Nat.le_of_ble_eq_true rfl, Nat.le_of_ble_eq_true rfl⟩) hS (fun q _ h => ad_A hAx hA (by decide) hS q h) (ad_A hAx hA (by decide) hS) (fun r1 u1 t1 H1 locs1 ht1 hv1 w1 hB1 hz1 hk1 hS => ?_)
  have hMI := hMI.kept (fr_ad (lo := 0) (hi := 112) hi (by decide) (by decide) (by decide) hk1)
  have hXI : X10I dC dI G ax T Y fa W0 W1 W2 N B N1 B1 N2 B2 K S M E Z H1 := by rw [← ht1]; exact hB1
  refine W.widen (k := 129) (n := 4562) (by omega) (by omega) ?_
  refine lv_pop hx hb dL_law_767 rfl ?_
  refine lv_aload_n hx hb dL_law_768 rfl (lv_at hl 1 rfl) ?_
  refine lv_aload_n hx hb dL_law_769 rfl (lv_at hl 3 rfl) ?_
  refine lv_iload_n hx hb dL_law_770 rfl (lv_at hl 0 rfl) ?_
  refine lv_iconst (v := 1) hx hb dL_law_771 (by decide) ?_
  refine lv_iadd hx hb dL_law_772 ?_
  refine lv_cg (y := nI (5 * k + 1)) (by rw [show (1 : Int32) = nI 1 from rfl]; exact nI_add _ _) ?_
  refine va_sld hx hb hX hbl hbA hS (vp_in_nI (by omega) (by omega)) dL_law_773 ?_
  refine lv_cg (y := xs (5 * k + 1)) (by rw [nI_clamp (by omega)]) ?_
  refine lv_aload_n hx hb dL_law_774 rfl (lv_at hl 3 rfl) ?_
  refine lv_iload_n hx hb dL_law_775 rfl (lv_at hl 0 rfl) ?_
  refine lv_iconst (v := 2) hx hb dL_law_776 (by decide) ?_
  refine lv_iadd hx hb dL_law_777 ?_
  refine lv_cg (y := nI (5 * k + 2)) (by rw [show (2 : Int32) = nI 2 from rfl]; exact nI_add _ _) ?_
  refine va_sld hx hb hX hbl hbA hS (vp_in_nI (by omega) (by omega)) dL_law_778 ?_
  refine lv_cg (y := xs (5 * k + 2)) (by rw [nI_clamp (by omega)]) ?_
  refine lv_aload_n hx hb dL_law_779 rfl (lv_at hl 3 rfl) ?_
  refine lv_iload_n hx hb dL_law_780 rfl (lv_at hl 0 rfl) ?_
  refine lv_iconst (v := 3) hx hb dL_law_781 (by decide) ?_
  refine lv_iadd hx hb dL_law_782 ?_
  refine lv_cg (y := nI (5 * k + 3)) (by rw [show (3 : Int32) = nI 3 from rfl]; exact nI_add _ _) ?_
  refine va_sld hx hb hX hbl hbA hS (vp_in_nI (by omega) (by omega)) dL_law_783 ?_
  refine lv_cg (y := xs (5 * k + 3)) (by rw [nI_clamp (by omega)]) ?_
  refine va_calli (va_runV (As := [.int (xs (5 * k + 1)), .int (xs (5 * k + 2)), .int (xs (5 * k + 3))]) (rest := []) ⟨hx, hb, hml, hown, hg⟩ (k_X11_next l dC dI G _ ax hi T Y fa W0 W1 W2 N B N1 B1 N2 B2 K S M E Z (xs (5 * k + 1)) (xs (5 * k + 2)) (xs (5 * k + 3))) (kwV hg mfX11_next wt_1162 ⟨Nat.le_of_ble_eq_true rfl, Nat.le_of_ble_eq_true rfl⟩) (preVI hK hMI (hMI.recv hK)) rfl rfl hl.1 rfl (lv_room (Nat.le_of_ble_eq_true rfl)) dL_law_784 ⟨Nat.le_of_ble_eq_true rfl, Nat.le_of_ble_eq_true rfl⟩) hS (fun q _ h => ad_A hAx hA (by decide) hS q h) (ad_A hAx hA (by decide) hS) (fun r2 u2 t2 H2 locs2 ht2 hv2 w2 hB2 hz2 hk2 hS => ?_)
  have hXI := hXI.kept (fr_ad (lo := 112) (hi := 129) hi (by decide) (by decide) (by decide) hk2)
  have hMI : X11I dC dI G ax T Y fa W0 W1 W2 N B N1 B1 N2 B2 K S M E Z H2 := by rw [← ht2]; exact hB2
  refine W.widen (k := 129) (n := 4562) (by omega) (by omega) ?_
  refine lv_pop hx hb dL_law_787 rfl ?_
  refine lv_goto (tgt := 1382) hx hb dL_law_788 (by decide) ?_
  exact kk _ _ ⟨_, _, _, _, _, _, _, _, _, _, _, _, _, _, _, _, _, hXI, hMI⟩ hS

set_option maxHeartbeats 1000000 in
set_option maxRecDepth 100000 in
theorem lc_without {p : Program} {l : Launch} {e : Env} {s : State} {m : MethodId} {below : List Frame} {meth : Method} {c : Code} {b L : Nat} {xs : Nat → Int32} {dC : Nat → ClassId} {dI : Nat → Nat → Nat} {G : Nat → ClassId} {ax adK adV : Nat → Nat} {A : Nat → Prop} {Q : State → Prop} (C1 : lw_C p s m c b L xs dC dI G ax adK adV A) {k : Nat} (hk : 5 * k + 5 ≤ L) (hL : L ≤ 2560) {H : Heap} {locs : List Loc} {ls : Array Slot} (hI : LI dC dI G ax H) (hS : va_S A s.heap H locs) (hl : lv_has ls 4 [(3, .int (nI (5 * k))), (2, .ref (ax 112)), (1, .ref (ax 0)), (0, .ref b)]) (kk : ∀ (H : Heap) (locs : List Loc), LI dC dI G ax H → va_S A s.heap H locs → W p l e room_1 s m #[Value.ref b] below meth c H locs 129 4562 Q (F0 m 1382 ls [])) : W p l e room_1 s m #[Value.ref b] below meth c H locs 129 4562 Q (F0 m 791 ls []) := by
  obtain ⟨hx, hb, hml, hown, hg, hX, hbl, hbA, hK, hi, hAx, hA, hSS⟩ := C1
  obtain ⟨T, Y, fa, W0, W1, W2, N, B, N1, B1, N2, B2, K, S, M, E, Z, hXI, hMI⟩ := hI
  refine lv_aload_n hx hb dL_law_791 rfl (lv_at hl 2 rfl) ?_
  refine lv_aload_n hx hb dL_law_792 rfl (lv_at hl 3 rfl) ?_
  refine lv_iload_n hx hb dL_law_793 rfl (lv_at hl 0 rfl) ?_
  refine lv_iconst (v := 1) hx hb dL_law_794 (by decide) ?_
  refine lv_iadd hx hb dL_law_795 ?_
  refine lv_cg (y := nI (5 * k + 1)) (by rw [show (1 : Int32) = nI 1 from rfl]; exact nI_add _ _) ?_
  refine va_sld hx hb hX hbl hbA hS (vp_in_nI (by omega) (by omega)) dL_law_796 ?_
  refine lv_cg (y := xs (5 * k + 1)) (by rw [nI_clamp (by omega)]) ?_
  refine lv_aload_n hx hb dL_law_797 rfl (lv_at hl 3 rfl) ?_
  refine lv_iload_n hx hb dL_law_798 rfl (lv_at hl 0 rfl) ?_
  refine lv_iconst (v := 2) hx hb dL_law_799 (by decide) ?_
  refine lv_iadd hx hb dL_law_800 ?_
  refine lv_cg (y := nI (5 * k + 2)) (by rw [show (2 : Int32) = nI 2 from rfl]; exact nI_add _ _) ?_
  refine va_sld hx hb hX hbl hbA hS (vp_in_nI (by omega) (by omega)) dL_law_801 ?_
  refine lv_cg (y := xs (5 * k + 2)) (by rw [nI_clamp (by omega)]) ?_
  refine va_calll (va_runV (As := [.int (xs (5 * k + 1)), .int (xs (5 * k + 2))]) (rest := []) ⟨hx, hb, hml, hown, hg⟩ (k_X10_withoutE l dC dI G _ ax hi T Y fa W0 W1 W2 N B N1 B1 N2 B2 K S M E Z (xs (5 * k + 1)) (xs (5 * k + 2)) hMI.hb) (kwV hg mfX10_without wt_685 ⟨Nat.le_of_ble_eq_true rfl, Nat.le_of_ble_eq_true rfl⟩) (preVI hK hXI (hXI.recv hK)) rfl rfl hl.1 rfl (lv_room (Nat.le_of_ble_eq_true rfl)) dL_law_802 ⟨Nat.le_of_ble_eq_true rfl, Nat.le_of_ble_eq_true rfl⟩) hS (fun q _ h => ad_A hAx hA (by decide) hS q h) (ad_A hAx hA (by decide) hS) (fun r1 u1 t1 H1 locs1 ht1 hv1 w1 hB1 hz1 hk1 hS => ?_)
  have hMI := hMI.kept (fr_ad (lo := 0) (hi := 112) hi (by decide) (by decide) (by decide) hk1)
  have hXI : X10I dC dI G ax T Y fa W0 W1 W2 N B N1 B1 N2 B2 K S M E Z H1 := by rw [← ht1]; exact hB1
  refine W.widen (k := 129) (n := 4562) (by omega) (by omega) ?_
  refine lv_aload_n hx hb dL_law_805 rfl (lv_at hl 1 rfl) ?_
  refine lv_aload_n hx hb dL_law_806 rfl (lv_at hl 3 rfl) ?_
  refine lv_iload_n hx hb dL_law_807 rfl (lv_at hl 0 rfl) ?_
  refine lv_iconst (v := 1) hx hb dL_law_808 (by decide) ?_
  refine lv_iadd hx hb dL_law_809 ?_
  refine lv_cg (y := nI (5 * k + 1)) (by rw [show (1 : Int32) = nI 1 from rfl]; exact nI_add _ _) ?_
  refine va_sld hx hb hX hbl hbA hS (vp_in_nI (by omega) (by omega)) dL_law_810 ?_
  refine lv_cg (y := xs (5 * k + 1)) (by rw [nI_clamp (by omega)]) ?_
  refine lv_aload_n hx hb dL_law_811 rfl (lv_at hl 3 rfl) ?_
  refine lv_iload_n hx hb dL_law_812 rfl (lv_at hl 0 rfl) ?_
  refine lv_iconst (v := 2) hx hb dL_law_813 (by decide) ?_
  refine lv_iadd hx hb dL_law_814 ?_
  refine lv_cg (y := nI (5 * k + 2)) (by rw [show (2 : Int32) = nI 2 from rfl]; exact nI_add _ _) ?_
  refine va_sld hx hb hX hbl hbA hS (vp_in_nI (by omega) (by omega)) dL_law_815 ?_
  refine lv_cg (y := xs (5 * k + 2)) (by rw [nI_clamp (by omega)]) ?_
  refine va_calll (va_runV (As := [.int (xs (5 * k + 1)), .int (xs (5 * k + 2))]) (rest := [.long r1]) ⟨hx, hb, hml, hown, hg⟩ (k_X11_withoutE l dC dI G _ ax hi T Y fa W0 W1 W2 N B N1 B1 N2 B2 K S M E Z (xs (5 * k + 1)) (xs (5 * k + 2))) (kwV hg mfX11_without wt_1166 ⟨Nat.le_of_ble_eq_true rfl, Nat.le_of_ble_eq_true rfl⟩) (preVI hK hMI (hMI.recv hK)) rfl rfl hl.1 rfl (lv_room (Nat.le_of_ble_eq_true rfl)) dL_law_816 ⟨Nat.le_of_ble_eq_true rfl, Nat.le_of_ble_eq_true rfl⟩) hS (fun q _ h => ad_A hAx hA (by decide) hS q h) (ad_A hAx hA (by decide) hS) (fun r2 u2 t2 H2 locs2 ht2 hv2 w2 hB2 hz2 hk2 hS => ?_)
  have hXI := hXI.kept (fr_ad (lo := 112) (hi := 129) hi (by decide) (by decide) (by decide) hk2)
  have hMI : X11I dC dI G ax T Y fa W0 W1 W2 N B N1 B1 N2 B2 K S M E Z H2 := by rw [← ht2]; exact hB2
  refine W.widen (k := 129) (n := 4562) (by omega) (by omega) ?_
  refine W.lcmp hx hb dL_law_819 ?_
  refine lv_if_eq (tgt := 1382) hx hb dL_law_820 (by decide) (fun c1 => ?_) (fun c1 => absurd ((lg_cmp_eq _ _).mpr (w1.trans w2.symm)) c1)
  exact kk _ _ ⟨_, _, _, _, _, _, _, _, _, _, _, _, _, _, _, _, _, hXI, hMI⟩ hS

set_option maxHeartbeats 1000000 in
set_option maxRecDepth 100000 in
theorem lc_quiet {p : Program} {l : Launch} {e : Env} {s : State} {m : MethodId} {below : List Frame} {meth : Method} {c : Code} {b L : Nat} {xs : Nat → Int32} {dC : Nat → ClassId} {dI : Nat → Nat → Nat} {G : Nat → ClassId} {ax adK adV : Nat → Nat} {A : Nat → Prop} {Q : State → Prop} (C1 : lw_C p s m c b L xs dC dI G ax adK adV A) {k : Nat} (hk : 5 * k + 5 ≤ L) (hL : L ≤ 2560) {H : Heap} {locs : List Loc} {ls : Array Slot} (hI : LI dC dI G ax H) (hS : va_S A s.heap H locs) (hl : lv_has ls 4 [(3, .int (nI (5 * k))), (2, .ref (ax 112)), (1, .ref (ax 0)), (0, .ref b)]) (kk : ∀ (H : Heap) (locs : List Loc), LI dC dI G ax H → va_S A s.heap H locs → W p l e room_1 s m #[Value.ref b] below meth c H locs 129 4562 Q (F0 m 1382 ls [])) : W p l e room_1 s m #[Value.ref b] below meth c H locs 129 4562 Q (F0 m 825 ls []) := by
  obtain ⟨hx, hb, hml, hown, hg, hX, hbl, hbA, hK, hi, hAx, hA, hSS⟩ := C1
  obtain ⟨T, Y, fa, W0, W1, W2, N, B, N1, B1, N2, B2, K, S, M, E, Z, hXI, hMI⟩ := hI
  refine lv_aload_n hx hb dL_law_825 rfl (lv_at hl 2 rfl) ?_
  refine lv_aload_n hx hb dL_law_826 rfl (lv_at hl 3 rfl) ?_
  refine lv_iload_n hx hb dL_law_827 rfl (lv_at hl 0 rfl) ?_
  refine lv_iconst (v := 1) hx hb dL_law_828 (by decide) ?_
  refine lv_iadd hx hb dL_law_829 ?_
  refine lv_cg (y := nI (5 * k + 1)) (by rw [show (1 : Int32) = nI 1 from rfl]; exact nI_add _ _) ?_
  refine va_sld hx hb hX hbl hbA hS (vp_in_nI (by omega) (by omega)) dL_law_830 ?_
  refine lv_cg (y := xs (5 * k + 1)) (by rw [nI_clamp (by omega)]) ?_
  refine lv_aload_n hx hb dL_law_831 rfl (lv_at hl 3 rfl) ?_
  refine lv_iload_n hx hb dL_law_832 rfl (lv_at hl 0 rfl) ?_
  refine lv_iconst (v := 2) hx hb dL_law_833 (by decide) ?_
  refine lv_iadd hx hb dL_law_834 ?_
  refine lv_cg (y := nI (5 * k + 2)) (by rw [show (2 : Int32) = nI 2 from rfl]; exact nI_add _ _) ?_
  refine va_sld hx hb hX hbl hbA hS (vp_in_nI (by omega) (by omega)) dL_law_835 ?_
  refine lv_cg (y := xs (5 * k + 2)) (by rw [nI_clamp (by omega)]) ?_
  refine va_calll (va_runV (As := [.int (xs (5 * k + 1)), .int (xs (5 * k + 2))]) (rest := []) ⟨hx, hb, hml, hown, hg⟩ (k_X10_quiet l dC dI G _ ax hi T Y fa W0 W1 W2 N B N1 B1 N2 B2 K S M E Z (xs (5 * k + 1)) (xs (5 * k + 2))) (kwV hg mfX10_quiet wt_690 ⟨Nat.le_of_ble_eq_true rfl, Nat.le_of_ble_eq_true rfl⟩) (preVI hK hXI (hXI.recv hK)) rfl rfl hl.1 rfl (lv_room (Nat.le_of_ble_eq_true rfl)) dL_law_836 ⟨Nat.le_of_ble_eq_true rfl, Nat.le_of_ble_eq_true rfl⟩) hS (fun q _ h => ad_A hAx hA (by decide) hS q h) (ad_A hAx hA (by decide) hS) (fun r1 u1 t1 H1 locs1 ht1 hv1 w1 hB1 hz1 hk1 hS => ?_)
  have hMI := hMI.kept (fr_ad (lo := 0) (hi := 112) hi (by decide) (by decide) (by decide) hk1)
  have hXI : X10I dC dI G ax T Y fa W0 W1 W2 N B N1 B1 N2 B2 K S M E Z H1 := by rw [← ht1]; exact hB1
  refine W.widen (k := 129) (n := 4562) (by omega) (by omega) ?_
  refine lv_pop2_2 hx hb dL_law_839 rfl ?_
  refine lv_aload_n hx hb dL_law_840 rfl (lv_at hl 1 rfl) ?_
  refine lv_aload_n hx hb dL_law_841 rfl (lv_at hl 3 rfl) ?_
  refine lv_iload_n hx hb dL_law_842 rfl (lv_at hl 0 rfl) ?_
  refine lv_iconst (v := 1) hx hb dL_law_843 (by decide) ?_
  refine lv_iadd hx hb dL_law_844 ?_
  refine lv_cg (y := nI (5 * k + 1)) (by rw [show (1 : Int32) = nI 1 from rfl]; exact nI_add _ _) ?_
  refine va_sld hx hb hX hbl hbA hS (vp_in_nI (by omega) (by omega)) dL_law_845 ?_
  refine lv_cg (y := xs (5 * k + 1)) (by rw [nI_clamp (by omega)]) ?_
  refine lv_aload_n hx hb dL_law_846 rfl (lv_at hl 3 rfl) ?_
  refine lv_iload_n hx hb dL_law_847 rfl (lv_at hl 0 rfl) ?_
  refine lv_iconst (v := 2) hx hb dL_law_848 (by decide) ?_
  refine lv_iadd hx hb dL_law_849 ?_
  refine lv_cg (y := nI (5 * k + 2)) (by rw [show (2 : Int32) = nI 2 from rfl]; exact nI_add _ _) ?_
  refine va_sld hx hb hX hbl hbA hS (vp_in_nI (by omega) (by omega)) dL_law_850 ?_
  refine lv_cg (y := xs (5 * k + 2)) (by rw [nI_clamp (by omega)]) ?_
  refine va_calll (va_runV (As := [.int (xs (5 * k + 1)), .int (xs (5 * k + 2))]) (rest := []) ⟨hx, hb, hml, hown, hg⟩ (k_X11_quiet l dC dI G _ ax hi T Y fa W0 W1 W2 N B N1 B1 N2 B2 K S M E Z (xs (5 * k + 1)) (xs (5 * k + 2))) (kwV hg mfX11_quiet wt_1171 ⟨Nat.le_of_ble_eq_true rfl, Nat.le_of_ble_eq_true rfl⟩) (preVI hK hMI (hMI.recv hK)) rfl rfl hl.1 rfl (lv_room (Nat.le_of_ble_eq_true rfl)) dL_law_851 ⟨Nat.le_of_ble_eq_true rfl, Nat.le_of_ble_eq_true rfl⟩) hS (fun q _ h => ad_A hAx hA (by decide) hS q h) (ad_A hAx hA (by decide) hS) (fun r2 u2 t2 H2 locs2 ht2 hv2 w2 hB2 hz2 hk2 hS => ?_)
  have hXI := hXI.kept (fr_ad (lo := 112) (hi := 129) hi (by decide) (by decide) (by decide) hk2)
  have hMI : X11I dC dI G ax T Y fa W0 W1 W2 N B N1 B1 N2 B2 K S M E Z H2 := by rw [← ht2]; exact hB2
  refine W.widen (k := 129) (n := 4562) (by omega) (by omega) ?_
  refine lv_pop2_2 hx hb dL_law_854 rfl ?_
  refine lv_goto (tgt := 1382) hx hb dL_law_855 (by decide) ?_
  exact kk _ _ ⟨_, _, _, _, _, _, _, _, _, _, _, _, _, _, _, _, _, hXI, hMI⟩ hS

set_option maxHeartbeats 1000000 in
set_option maxRecDepth 100000 in
theorem lc_drop {p : Program} {l : Launch} {e : Env} {s : State} {m : MethodId} {below : List Frame} {meth : Method} {c : Code} {b L : Nat} {xs : Nat → Int32} {dC : Nat → ClassId} {dI : Nat → Nat → Nat} {G : Nat → ClassId} {ax adK adV : Nat → Nat} {A : Nat → Prop} {Q : State → Prop} (C1 : lw_C p s m c b L xs dC dI G ax adK adV A) {k : Nat} (hk : 5 * k + 5 ≤ L) (hL : L ≤ 2560) {H : Heap} {locs : List Loc} {ls : Array Slot} (hI : LI dC dI G ax H) (hS : va_S A s.heap H locs) (hl : lv_has ls 4 [(3, .int (nI (5 * k))), (2, .ref (ax 112)), (1, .ref (ax 0)), (0, .ref b)]) (kk : ∀ (H : Heap) (locs : List Loc), LI dC dI G ax H → va_S A s.heap H locs → W p l e room_1 s m #[Value.ref b] below meth c H locs 129 4562 Q (F0 m 1382 ls [])) : W p l e room_1 s m #[Value.ref b] below meth c H locs 129 4562 Q (F0 m 858 ls []) := by
  obtain ⟨hx, hb, hml, hown, hg, hX, hbl, hbA, hK, hi, hAx, hA, hSS⟩ := C1
  obtain ⟨T, Y, fa, W0, W1, W2, N, B, N1, B1, N2, B2, K, S, M, E, Z, hXI, hMI⟩ := hI
  refine lv_aload_n hx hb dL_law_858 rfl (lv_at hl 2 rfl) ?_
  refine lv_aload_n hx hb dL_law_859 rfl (lv_at hl 3 rfl) ?_
  refine lv_iload_n hx hb dL_law_860 rfl (lv_at hl 0 rfl) ?_
  refine lv_iconst (v := 1) hx hb dL_law_861 (by decide) ?_
  refine lv_iadd hx hb dL_law_862 ?_
  refine lv_cg (y := nI (5 * k + 1)) (by rw [show (1 : Int32) = nI 1 from rfl]; exact nI_add _ _) ?_
  refine va_sld hx hb hX hbl hbA hS (vp_in_nI (by omega) (by omega)) dL_law_863 ?_
  refine lv_cg (y := xs (5 * k + 1)) (by rw [nI_clamp (by omega)]) ?_
  refine va_calll (va_runV (As := [.int (xs (5 * k + 1))]) (rest := []) ⟨hx, hb, hml, hown, hg⟩ (k_X10_drop l dC dI G _ ax hi T Y fa W0 W1 W2 N B N1 B1 N2 B2 K S M E Z (xs (5 * k + 1))) (kwV hg mfX10_drop wt_707 ⟨Nat.le_of_ble_eq_true rfl, Nat.le_of_ble_eq_true rfl⟩) (preVI hK hXI (hXI.recv hK)) rfl rfl hl.1 rfl (lv_room (Nat.le_of_ble_eq_true rfl)) dL_law_864 ⟨Nat.le_of_ble_eq_true rfl, Nat.le_of_ble_eq_true rfl⟩) hS (fun q _ h => ad_A hAx hA (by decide) hS q h) (ad_A hAx hA (by decide) hS) (fun r1 u1 t1 H1 locs1 ht1 hv1 w1 hB1 hz1 hk1 hS => ?_)
  have hMI := hMI.kept (fr_ad (lo := 0) (hi := 112) hi (by decide) (by decide) (by decide) hk1)
  have hXI : X10I dC dI G ax T Y fa W0 W1 W2 N B N1 B1 N2 B2 K S M E Z H1 := by rw [← ht1]; exact hB1
  refine W.widen (k := 129) (n := 4562) (by omega) (by omega) ?_
  refine lv_pop2_2 hx hb dL_law_867 rfl ?_
  refine lv_aload_n hx hb dL_law_868 rfl (lv_at hl 1 rfl) ?_
  refine lv_aload_n hx hb dL_law_869 rfl (lv_at hl 3 rfl) ?_
  refine lv_iload_n hx hb dL_law_870 rfl (lv_at hl 0 rfl) ?_
  refine lv_iconst (v := 1) hx hb dL_law_871 (by decide) ?_
  refine lv_iadd hx hb dL_law_872 ?_
  refine lv_cg (y := nI (5 * k + 1)) (by rw [show (1 : Int32) = nI 1 from rfl]; exact nI_add _ _) ?_
  refine va_sld hx hb hX hbl hbA hS (vp_in_nI (by omega) (by omega)) dL_law_873 ?_
  refine lv_cg (y := xs (5 * k + 1)) (by rw [nI_clamp (by omega)]) ?_
  refine va_calll (va_runV (As := [.int (xs (5 * k + 1))]) (rest := []) ⟨hx, hb, hml, hown, hg⟩ (k_X11_drop l dC dI G _ ax hi T Y fa W0 W1 W2 N B N1 B1 N2 B2 K S M E Z (xs (5 * k + 1))) (kwV hg mfX11_drop wt_1179 ⟨Nat.le_of_ble_eq_true rfl, Nat.le_of_ble_eq_true rfl⟩) (preVI hK hMI (hMI.recv hK)) rfl rfl hl.1 rfl (lv_room (Nat.le_of_ble_eq_true rfl)) dL_law_874 ⟨Nat.le_of_ble_eq_true rfl, Nat.le_of_ble_eq_true rfl⟩) hS (fun q _ h => ad_A hAx hA (by decide) hS q h) (ad_A hAx hA (by decide) hS) (fun r2 u2 t2 H2 locs2 ht2 hv2 w2 hB2 hz2 hk2 hS => ?_)
  have hXI := hXI.kept (fr_ad (lo := 112) (hi := 129) hi (by decide) (by decide) (by decide) hk2)
  have hMI : X11I dC dI G ax T Y fa W0 W1 W2 N B N1 B1 N2 B2 K S M E Z H2 := by rw [← ht2]; exact hB2
  refine W.widen (k := 129) (n := 4562) (by omega) (by omega) ?_
  refine lv_pop2_2 hx hb dL_law_877 rfl ?_
  refine lv_goto (tgt := 1382) hx hb dL_law_878 (by decide) ?_
  exact kk _ _ ⟨_, _, _, _, _, _, _, _, _, _, _, _, _, _, _, _, _, hXI, hMI⟩ hS

set_option maxHeartbeats 1000000 in
set_option maxRecDepth 100000 in
theorem lc_swap {p : Program} {l : Launch} {e : Env} {s : State} {m : MethodId} {below : List Frame} {meth : Method} {c : Code} {b L : Nat} {xs : Nat → Int32} {dC : Nat → ClassId} {dI : Nat → Nat → Nat} {G : Nat → ClassId} {ax adK adV : Nat → Nat} {A : Nat → Prop} {Q : State → Prop} (C1 : lw_C p s m c b L xs dC dI G ax adK adV A) {k : Nat} (hk : 5 * k + 5 ≤ L) (hL : L ≤ 2560) {H : Heap} {locs : List Loc} {ls : Array Slot} (hI : LI dC dI G ax H) (hS : va_S A s.heap H locs) (hl : lv_has ls 4 [(3, .int (nI (5 * k))), (2, .ref (ax 112)), (1, .ref (ax 0)), (0, .ref b)]) (kk : ∀ (H : Heap) (locs : List Loc), LI dC dI G ax H → va_S A s.heap H locs → W p l e room_1 s m #[Value.ref b] below meth c H locs 129 4562 Q (F0 m 1382 ls [])) : W p l e room_1 s m #[Value.ref b] below meth c H locs 129 4562 Q (F0 m 881 ls []) := by
  obtain ⟨hx, hb, hml, hown, hg, hX, hbl, hbA, hK, hi, hAx, hA, hSS⟩ := C1
  obtain ⟨T, Y, fa, W0, W1, W2, N, B, N1, B1, N2, B2, K, S, M, E, Z, hXI, hMI⟩ := hI
  refine lv_aload_n hx hb dL_law_881 rfl (lv_at hl 2 rfl) ?_
  refine lv_aload_n hx hb dL_law_882 rfl (lv_at hl 3 rfl) ?_
  refine lv_iload_n hx hb dL_law_883 rfl (lv_at hl 0 rfl) ?_
  refine lv_iconst (v := 1) hx hb dL_law_884 (by decide) ?_
  refine lv_iadd hx hb dL_law_885 ?_
  refine lv_cg (y := nI (5 * k + 1)) (by rw [show (1 : Int32) = nI 1 from rfl]; exact nI_add _ _) ?_
  refine va_sld hx hb hX hbl hbA hS (vp_in_nI (by omega) (by omega)) dL_law_886 ?_
  refine lv_cg (y := xs (5 * k + 1)) (by rw [nI_clamp (by omega)]) ?_
  refine va_calll (va_runV (As := [.int (xs (5 * k + 1))]) (rest := []) ⟨hx, hb, hml, hown, hg⟩ (k_X10_swap l dC dI G _ ax hi T Y fa W0 W1 W2 N B N1 B1 N2 B2 K S M E Z (xs (5 * k + 1))) (kwV hg mfX10_swap wt_711 ⟨Nat.le_of_ble_eq_true rfl, Nat.le_of_ble_eq_true rfl⟩) (preVI hK hXI (hXI.recv hK)) rfl rfl hl.1 rfl (lv_room (Nat.le_of_ble_eq_true rfl)) dL_law_887 ⟨Nat.le_of_ble_eq_true rfl, Nat.le_of_ble_eq_true rfl⟩) hS (fun q _ h => ad_A hAx hA (by decide) hS q h) (ad_A hAx hA (by decide) hS) (fun r1 u1 t1 H1 locs1 ht1 hv1 w1 hB1 hz1 hk1 hS => ?_)
  have hMI := hMI.kept (fr_ad (lo := 0) (hi := 112) hi (by decide) (by decide) (by decide) hk1)
  have hXI : X10I dC dI G ax T Y fa W0 W1 W2 N B N1 B1 N2 B2 K S M E Z H1 := by rw [← ht1]; exact hB1
  refine W.widen (k := 129) (n := 4562) (by omega) (by omega) ?_
  refine lv_pop2_2 hx hb dL_law_890 rfl ?_
  refine lv_aload_n hx hb dL_law_891 rfl (lv_at hl 1 rfl) ?_
  refine lv_aload_n hx hb dL_law_892 rfl (lv_at hl 3 rfl) ?_
  refine lv_iload_n hx hb dL_law_893 rfl (lv_at hl 0 rfl) ?_
  refine lv_iconst (v := 1) hx hb dL_law_894 (by decide) ?_
  refine lv_iadd hx hb dL_law_895 ?_
  refine lv_cg (y := nI (5 * k + 1)) (by rw [show (1 : Int32) = nI 1 from rfl]; exact nI_add _ _) ?_
  refine va_sld hx hb hX hbl hbA hS (vp_in_nI (by omega) (by omega)) dL_law_896 ?_
  refine lv_cg (y := xs (5 * k + 1)) (by rw [nI_clamp (by omega)]) ?_
  refine va_calll (va_runV (As := [.int (xs (5 * k + 1))]) (rest := []) ⟨hx, hb, hml, hown, hg⟩ (k_X11_swapW l dC dI G _ ax hi T Y fa W0 W1 W2 N B N1 B1 N2 B2 K S M E Z (xs (5 * k + 1))) (kwV hg mfX11_swap wt_1183 ⟨Nat.le_of_ble_eq_true rfl, Nat.le_of_ble_eq_true rfl⟩) (preVI hK hMI (hMI.recv hK)) rfl rfl hl.1 rfl (lv_room (Nat.le_of_ble_eq_true rfl)) dL_law_897 ⟨Nat.le_of_ble_eq_true rfl, Nat.le_of_ble_eq_true rfl⟩) hS (fun q _ h => ad_A hAx hA (by decide) hS q h) (ad_A hAx hA (by decide) hS) (fun r2 u2 t2 H2 locs2 ht2 hv2 w2 hB2 hz2 hk2 hS => ?_)
  have hXI := hXI.kept (fr_ad (lo := 112) (hi := 129) hi (by decide) (by decide) (by decide) hk2)
  have hMI : X11I dC dI G ax T Y fa W0 W1 W2 N B N1 B1 N2 B2 K S M E Z H2 := by rw [← ht2]; exact hB2
  refine W.widen (k := 129) (n := 4562) (by omega) (by omega) ?_
  refine lv_pop2_2 hx hb dL_law_900 rfl ?_
  refine lv_goto (tgt := 1382) hx hb dL_law_901 (by decide) ?_
  exact kk _ _ ⟨_, _, _, _, _, _, _, _, _, _, _, _, _, _, _, _, _, hXI, hMI⟩ hS

set_option maxHeartbeats 1000000 in
set_option maxRecDepth 100000 in
theorem lc_carry {p : Program} {l : Launch} {e : Env} {s : State} {m : MethodId} {below : List Frame} {meth : Method} {c : Code} {b L : Nat} {xs : Nat → Int32} {dC : Nat → ClassId} {dI : Nat → Nat → Nat} {G : Nat → ClassId} {ax adK adV : Nat → Nat} {A : Nat → Prop} {Q : State → Prop} (C1 : lw_C p s m c b L xs dC dI G ax adK adV A) {k : Nat} (hk : 5 * k + 5 ≤ L) (hL : L ≤ 2560) {H : Heap} {locs : List Loc} {ls : Array Slot} (hI : LI dC dI G ax H) (hS : va_S A s.heap H locs) (hl : lv_has ls 4 [(3, .int (nI (5 * k))), (2, .ref (ax 112)), (1, .ref (ax 0)), (0, .ref b)]) (kk : ∀ (H : Heap) (locs : List Loc), LI dC dI G ax H → va_S A s.heap H locs → W p l e room_1 s m #[Value.ref b] below meth c H locs 129 4562 Q (F0 m 1382 ls [])) : W p l e room_1 s m #[Value.ref b] below meth c H locs 129 4562 Q (F0 m 904 ls []) := by
  obtain ⟨hx, hb, hml, hown, hg, hX, hbl, hbA, hK, hi, hAx, hA, hSS⟩ := C1
  obtain ⟨T, Y, fa, W0, W1, W2, N, B, N1, B1, N2, B2, K, S, M, E, Z, hXI, hMI⟩ := hI
  refine lv_aload_n hx hb dL_law_904 rfl (lv_at hl 2 rfl) ?_
  refine lv_aload_n hx hb dL_law_905 rfl (lv_at hl 3 rfl) ?_
  refine lv_iload_n hx hb dL_law_906 rfl (lv_at hl 0 rfl) ?_
  refine lv_iconst (v := 1) hx hb dL_law_907 (by decide) ?_
  refine lv_iadd hx hb dL_law_908 ?_
  refine lv_cg (y := nI (5 * k + 1)) (by rw [show (1 : Int32) = nI 1 from rfl]; exact nI_add _ _) ?_
  refine va_sld hx hb hX hbl hbA hS (vp_in_nI (by omega) (by omega)) dL_law_909 ?_
  refine lv_cg (y := xs (5 * k + 1)) (by rw [nI_clamp (by omega)]) ?_
  refine lv_aload_n hx hb dL_law_910 rfl (lv_at hl 3 rfl) ?_
  refine lv_iload_n hx hb dL_law_911 rfl (lv_at hl 0 rfl) ?_
  refine lv_iconst (v := 2) hx hb dL_law_912 (by decide) ?_
  refine lv_iadd hx hb dL_law_913 ?_
  refine lv_cg (y := nI (5 * k + 2)) (by rw [show (2 : Int32) = nI 2 from rfl]; exact nI_add _ _) ?_
  refine va_sld hx hb hX hbl hbA hS (vp_in_nI (by omega) (by omega)) dL_law_914 ?_
  refine lv_cg (y := xs (5 * k + 2)) (by rw [nI_clamp (by omega)]) ?_
  refine va_calli (va_runV (As := [.int (xs (5 * k + 1)), .int (xs (5 * k + 2))]) (rest := []) ⟨hx, hb, hml, hown, hg⟩ (k_X10_carry l dC dI G _ ax hi T Y fa W0 W1 W2 N B N1 B1 N2 B2 K S M E Z (xs (5 * k + 1)) (xs (5 * k + 2))) (kwV hg mfX10_carry wt_719 ⟨Nat.le_of_ble_eq_true rfl, Nat.le_of_ble_eq_true rfl⟩) (preVI hK hXI (hXI.recv hK)) rfl rfl hl.1 rfl (lv_room (Nat.le_of_ble_eq_true rfl)) dL_law_915 ⟨Nat.le_of_ble_eq_true rfl, Nat.le_of_ble_eq_true rfl⟩) hS (fun q _ h => ad_A hAx hA (by decide) hS q h) (ad_A hAx hA (by decide) hS) (fun r1 u1 t1 H1 locs1 ht1 hv1 w1 hB1 hz1 hk1 hS => ?_)
  have hMI := hMI.kept (fr_ad (lo := 0) (hi := 112) hi (by decide) (by decide) (by decide) hk1)
  have hXI : X10I dC dI G ax T Y fa W0 W1 W2 N B N1 B1 N2 B2 K S M E Z H1 := by rw [← ht1]; exact hB1
  refine W.widen (k := 129) (n := 4562) (by omega) (by omega) ?_
  refine lv_pop hx hb dL_law_918 rfl ?_
  refine lv_aload_n hx hb dL_law_919 rfl (lv_at hl 1 rfl) ?_
  refine lv_aload_n hx hb dL_law_920 rfl (lv_at hl 3 rfl) ?_
  refine lv_iload_n hx hb dL_law_921 rfl (lv_at hl 0 rfl) ?_
  refine lv_iconst (v := 1) hx hb dL_law_922 (by decide) ?_
  refine lv_iadd hx hb dL_law_923 ?_
  refine lv_cg (y := nI (5 * k + 1)) (by rw [show (1 : Int32) = nI 1 from rfl]; exact nI_add _ _) ?_
  refine va_sld hx hb hX hbl hbA hS (vp_in_nI (by omega) (by omega)) dL_law_924 ?_
  refine lv_cg (y := xs (5 * k + 1)) (by rw [nI_clamp (by omega)]) ?_
  refine lv_aload_n hx hb dL_law_925 rfl (lv_at hl 3 rfl) ?_
  refine lv_iload_n hx hb dL_law_926 rfl (lv_at hl 0 rfl) ?_
  refine lv_iconst (v := 2) hx hb dL_law_927 (by decide) ?_
  refine lv_iadd hx hb dL_law_928 ?_
  refine lv_cg (y := nI (5 * k + 2)) (by rw [show (2 : Int32) = nI 2 from rfl]; exact nI_add _ _) ?_
  refine va_sld hx hb hX hbl hbA hS (vp_in_nI (by omega) (by omega)) dL_law_929 ?_
  refine lv_cg (y := xs (5 * k + 2)) (by rw [nI_clamp (by omega)]) ?_
  refine va_calli (va_runV (As := [.int (xs (5 * k + 1)), .int (xs (5 * k + 2))]) (rest := []) ⟨hx, hb, hml, hown, hg⟩ (k_X11_carry l dC dI G _ ax hi T Y fa W0 W1 W2 N B N1 B1 N2 B2 K S M E Z (xs (5 * k + 1)) (xs (5 * k + 2))) (kwV hg mfX11_carry wt_1191 ⟨Nat.le_of_ble_eq_true rfl, Nat.le_of_ble_eq_true rfl⟩) (preVI hK hMI (hMI.recv hK)) rfl rfl hl.1 rfl (lv_room (Nat.le_of_ble_eq_true rfl)) dL_law_930 ⟨Nat.le_of_ble_eq_true rfl, Nat.le_of_ble_eq_true rfl⟩) hS (fun q _ h => ad_A hAx hA (by decide) hS q h) (ad_A hAx hA (by decide) hS) (fun r2 u2 t2 H2 locs2 ht2 hv2 w2 hB2 hz2 hk2 hS => ?_)
  have hXI := hXI.kept (fr_ad (lo := 112) (hi := 129) hi (by decide) (by decide) (by decide) hk2)
  have hMI : X11I dC dI G ax T Y fa W0 W1 W2 N B N1 B1 N2 B2 K S M E Z H2 := by rw [← ht2]; exact hB2
  refine W.widen (k := 129) (n := 4562) (by omega) (by omega) ?_
  refine lv_pop hx hb dL_law_933 rfl ?_
  refine lv_goto (tgt := 1382) hx hb dL_law_934 (by decide) ?_
  exact kk _ _ ⟨_, _, _, _, _, _, _, _, _, _, _, _, _, _, _, _, _, hXI, hMI⟩ hS

set_option maxHeartbeats 1000000 in
set_option maxRecDepth 100000 in
theorem lc_learn {p : Program} {l : Launch} {e : Env} {s : State} {m : MethodId} {below : List Frame} {meth : Method} {c : Code} {b L : Nat} {xs : Nat → Int32} {dC : Nat → ClassId} {dI : Nat → Nat → Nat} {G : Nat → ClassId} {ax adK adV : Nat → Nat} {A : Nat → Prop} {Q : State → Prop} (C1 : lw_C p s m c b L xs dC dI G ax adK adV A) {k : Nat} (hk : 5 * k + 5 ≤ L) (hL : L ≤ 2560) {H : Heap} {locs : List Loc} {ls : Array Slot} (hI : LI dC dI G ax H) (hS : va_S A s.heap H locs) (hl : lv_has ls 4 [(3, .int (nI (5 * k))), (2, .ref (ax 112)), (1, .ref (ax 0)), (0, .ref b)]) (kk : ∀ (H : Heap) (locs : List Loc), LI dC dI G ax H → va_S A s.heap H locs → W p l e room_1 s m #[Value.ref b] below meth c H locs 129 4562 Q (F0 m 1382 ls [])) : W p l e room_1 s m #[Value.ref b] below meth c H locs 129 4562 Q (F0 m 937 ls []) := by
  obtain ⟨hx, hb, hml, hown, hg, hX, hbl, hbA, hK, hi, hAx, hA, hSS⟩ := C1
  obtain ⟨T, Y, fa, W0, W1, W2, N, B, N1, B1, N2, B2, K, S, M, E, Z, hXI, hMI⟩ := hI
  refine lv_aload_n hx hb dL_law_937 rfl (lv_at hl 2 rfl) ?_
  refine lv_aload_n hx hb dL_law_938 rfl (lv_at hl 3 rfl) ?_
  refine lv_iload_n hx hb dL_law_939 rfl (lv_at hl 0 rfl) ?_
  refine lv_iconst (v := 1) hx hb dL_law_940 (by decide) ?_
  refine lv_iadd hx hb dL_law_941 ?_
  refine lv_cg (y := nI (5 * k + 1)) (by rw [show (1 : Int32) = nI 1 from rfl]; exact nI_add _ _) ?_
  refine va_sld hx hb hX hbl hbA hS (vp_in_nI (by omega) (by omega)) dL_law_942 ?_
  refine lv_cg (y := xs (5 * k + 1)) (by rw [nI_clamp (by omega)]) ?_
  refine lv_aload_n hx hb dL_law_943 rfl (lv_at hl 3 rfl) ?_
  refine lv_iload_n hx hb dL_law_944 rfl (lv_at hl 0 rfl) ?_
  refine lv_iconst (v := 2) hx hb dL_law_945 (by decide) ?_
  refine lv_iadd hx hb dL_law_946 ?_
  refine lv_cg (y := nI (5 * k + 2)) (by rw [show (2 : Int32) = nI 2 from rfl]; exact nI_add _ _) ?_
  refine va_sld hx hb hX hbl hbA hS (vp_in_nI (by omega) (by omega)) dL_law_947 ?_
  refine lv_cg (y := xs (5 * k + 2)) (by rw [nI_clamp (by omega)]) ?_
  refine lv_aload_n hx hb dL_law_948 rfl (lv_at hl 3 rfl) ?_
  refine lv_iload_n hx hb dL_law_949 rfl (lv_at hl 0 rfl) ?_
  refine lv_iconst (v := 3) hx hb dL_law_950 (by decide) ?_
  refine lv_iadd hx hb dL_law_951 ?_
  refine lv_cg (y := nI (5 * k + 3)) (by rw [show (3 : Int32) = nI 3 from rfl]; exact nI_add _ _) ?_
  refine va_sld hx hb hX hbl hbA hS (vp_in_nI (by omega) (by omega)) dL_law_952 ?_
  refine lv_cg (y := xs (5 * k + 3)) (by rw [nI_clamp (by omega)]) ?_
  refine lv_aload_n hx hb dL_law_953 rfl (lv_at hl 3 rfl) ?_
  refine lv_iload_n hx hb dL_law_954 rfl (lv_at hl 0 rfl) ?_
  refine lv_iconst (v := 4) hx hb dL_law_955 (by decide) ?_
  refine lv_iadd hx hb dL_law_956 ?_
  refine lv_cg (y := nI (5 * k + 4)) (by rw [show (4 : Int32) = nI 4 from rfl]; exact nI_add _ _) ?_
  refine va_sld hx hb hX hbl hbA hS (vp_in_nI (by omega) (by omega)) dL_law_957 ?_
  refine lv_cg (y := xs (5 * k + 4)) (by rw [nI_clamp (by omega)]) ?_
  refine va_calli (va_runV (As := [.int (xs (5 * k + 1)), .int (xs (5 * k + 2)), .int (xs (5 * k + 3)), .int (xs (5 * k + 4))]) (rest := []) ⟨hx, hb, hml, hown, hg⟩ (k_X10_learnE l dC dI G _ ax hi T Y fa W0 W1 W2 N B N1 B1 N2 B2 K S M E Z (xs (5 * k + 1)) (xs (5 * k + 2)) (xs (5 * k + 3)) (xs (5 * k + 4))) (kwV hg mfX10_learn wt_730 ⟨Nat.le_of_ble_eq_true rfl, Nat.le_of_ble_eq_true rfl⟩) (preVI hK hXI (hXI.recv hK)) rfl rfl hl.1 rfl (lv_room (Nat.le_of_ble_eq_true rfl)) dL_law_958 ⟨Nat.le_of_ble_eq_true rfl, Nat.le_of_ble_eq_true rfl⟩) hS (fun q _ h => ad_A hAx hA (by decide) hS q h) (ad_A hAx hA (by decide) hS) (fun r1 u1 t1 H1 locs1 ht1 hv1 w1 hB1 hz1 hk1 hS => ?_)
  have hMI := hMI.kept (fr_ad (lo := 0) (hi := 112) hi (by decide) (by decide) (by decide) hk1)
  have hXI : X10I dC dI G ax T Y fa W0 W1 W2 N B N1 B1 N2 B2 K (if ((0 ≤ (xs (5 * k + 1)).toInt ∧ (xs (5 * k + 1)).toInt < ((N : Nat) : Int)) ∧ ((xs (5 * k + 2)).toInt = -4 ∨ (0 ≤ (xs (5 * k + 2)).toInt ∧ (xs (5 * k + 2)).toInt < ((B : Nat) : Int))) ∧ (0 ≤ (xs (5 * k + 3)).toInt ∧ (xs (5 * k + 3)).toInt < ((B : Nat) : Int)) ∧ 0 ≤ (xs (5 * k + 4)).toInt ∧ (xs (5 * k + 4)).toInt ≤ 20) ∧ S < 8 then S + 1 else S) M E Z H1 := by rw [← ht1]; exact hB1
  refine W.widen (k := 129) (n := 4562) (by omega) (by omega) ?_
  refine lv_pop hx hb dL_law_961 rfl ?_
  refine lv_aload_n hx hb dL_law_962 rfl (lv_at hl 1 rfl) ?_
  refine lv_aload_n hx hb dL_law_963 rfl (lv_at hl 3 rfl) ?_
  refine lv_iload_n hx hb dL_law_964 rfl (lv_at hl 0 rfl) ?_
  refine lv_iconst (v := 1) hx hb dL_law_965 (by decide) ?_
  refine lv_iadd hx hb dL_law_966 ?_
  refine lv_cg (y := nI (5 * k + 1)) (by rw [show (1 : Int32) = nI 1 from rfl]; exact nI_add _ _) ?_
  refine va_sld hx hb hX hbl hbA hS (vp_in_nI (by omega) (by omega)) dL_law_967 ?_
  refine lv_cg (y := xs (5 * k + 1)) (by rw [nI_clamp (by omega)]) ?_
  refine lv_aload_n hx hb dL_law_968 rfl (lv_at hl 3 rfl) ?_
  refine lv_iload_n hx hb dL_law_969 rfl (lv_at hl 0 rfl) ?_
  refine lv_iconst (v := 2) hx hb dL_law_970 (by decide) ?_
  refine lv_iadd hx hb dL_law_971 ?_
  refine lv_cg (y := nI (5 * k + 2)) (by rw [show (2 : Int32) = nI 2 from rfl]; exact nI_add _ _) ?_
  refine va_sld hx hb hX hbl hbA hS (vp_in_nI (by omega) (by omega)) dL_law_972 ?_
  refine lv_cg (y := xs (5 * k + 2)) (by rw [nI_clamp (by omega)]) ?_
  refine lv_aload_n hx hb dL_law_973 rfl (lv_at hl 3 rfl) ?_
  refine lv_iload_n hx hb dL_law_974 rfl (lv_at hl 0 rfl) ?_
  refine lv_iconst (v := 3) hx hb dL_law_975 (by decide) ?_
  refine lv_iadd hx hb dL_law_976 ?_
  refine lv_cg (y := nI (5 * k + 3)) (by rw [show (3 : Int32) = nI 3 from rfl]; exact nI_add _ _) ?_
  refine va_sld hx hb hX hbl hbA hS (vp_in_nI (by omega) (by omega)) dL_law_977 ?_
  refine lv_cg (y := xs (5 * k + 3)) (by rw [nI_clamp (by omega)]) ?_
  refine lv_aload_n hx hb dL_law_978 rfl (lv_at hl 3 rfl) ?_
  refine lv_iload_n hx hb dL_law_979 rfl (lv_at hl 0 rfl) ?_
  refine lv_iconst (v := 4) hx hb dL_law_980 (by decide) ?_
  refine lv_iadd hx hb dL_law_981 ?_
  refine lv_cg (y := nI (5 * k + 4)) (by rw [show (4 : Int32) = nI 4 from rfl]; exact nI_add _ _) ?_
  refine va_sld hx hb hX hbl hbA hS (vp_in_nI (by omega) (by omega)) dL_law_982 ?_
  refine lv_cg (y := xs (5 * k + 4)) (by rw [nI_clamp (by omega)]) ?_
  refine va_calli (va_runV (As := [.int (xs (5 * k + 1)), .int (xs (5 * k + 2)), .int (xs (5 * k + 3)), .int (xs (5 * k + 4))]) (rest := []) ⟨hx, hb, hml, hown, hg⟩ (k_X11_learnE l dC dI G _ ax hi T Y fa W0 W1 W2 N B N1 B1 N2 B2 K S M E Z (xs (5 * k + 1)) (xs (5 * k + 2)) (xs (5 * k + 3)) (xs (5 * k + 4))) (kwV hg mfX11_learn wt_1196 ⟨Nat.le_of_ble_eq_true rfl, Nat.le_of_ble_eq_true rfl⟩) (preVI hK hMI (hMI.recv hK)) rfl rfl hl.1 rfl (lv_room (Nat.le_of_ble_eq_true rfl)) dL_law_983 ⟨Nat.le_of_ble_eq_true rfl, Nat.le_of_ble_eq_true rfl⟩) hS (fun q _ h => ad_A hAx hA (by decide) hS q h) (ad_A hAx hA (by decide) hS) (fun r2 u2 t2 H2 locs2 ht2 hv2 w2 hB2 hz2 hk2 hS => ?_)
  have hXI := hXI.kept (fr_ad (lo := 112) (hi := 129) hi (by decide) (by decide) (by decide) hk2)
  have hMI : X11I dC dI G ax T Y fa W0 W1 W2 N B N1 B1 N2 B2 K (if ((0 ≤ (xs (5 * k + 1)).toInt ∧ (xs (5 * k + 1)).toInt < ((N : Nat) : Int)) ∧ ((xs (5 * k + 2)).toInt = -4 ∨ (0 ≤ (xs (5 * k + 2)).toInt ∧ (xs (5 * k + 2)).toInt < ((B : Nat) : Int))) ∧ (0 ≤ (xs (5 * k + 3)).toInt ∧ (xs (5 * k + 3)).toInt < ((B : Nat) : Int)) ∧ 0 ≤ (xs (5 * k + 4)).toInt ∧ (xs (5 * k + 4)).toInt ≤ 20) ∧ S < 8 then S + 1 else S) M E Z H2 := by rw [← ht2]; exact hB2
  refine W.widen (k := 129) (n := 4562) (by omega) (by omega) ?_
  refine lv_pop hx hb dL_law_986 rfl ?_
  refine lv_goto (tgt := 1382) hx hb dL_law_987 (by decide) ?_
  exact kk _ _ ⟨_, _, _, _, _, _, _, _, _, _, _, _, _, _, _, _, _, hXI, hMI⟩ hS

set_option maxHeartbeats 1000000 in
set_option maxRecDepth 100000 in
theorem lc_forget {p : Program} {l : Launch} {e : Env} {s : State} {m : MethodId} {below : List Frame} {meth : Method} {c : Code} {b L : Nat} {xs : Nat → Int32} {dC : Nat → ClassId} {dI : Nat → Nat → Nat} {G : Nat → ClassId} {ax adK adV : Nat → Nat} {A : Nat → Prop} {Q : State → Prop} (C1 : lw_C p s m c b L xs dC dI G ax adK adV A) {k : Nat} (hk : 5 * k + 5 ≤ L) (hL : L ≤ 2560) {H : Heap} {locs : List Loc} {ls : Array Slot} (hI : LI dC dI G ax H) (hS : va_S A s.heap H locs) (hl : lv_has ls 4 [(3, .int (nI (5 * k))), (2, .ref (ax 112)), (1, .ref (ax 0)), (0, .ref b)]) (kk : ∀ (H : Heap) (locs : List Loc), LI dC dI G ax H → va_S A s.heap H locs → W p l e room_1 s m #[Value.ref b] below meth c H locs 129 4562 Q (F0 m 1382 ls [])) : W p l e room_1 s m #[Value.ref b] below meth c H locs 129 4562 Q (F0 m 990 ls []) := by
  obtain ⟨hx, hb, hml, hown, hg, hX, hbl, hbA, hK, hi, hAx, hA, hSS⟩ := C1
  obtain ⟨T, Y, fa, W0, W1, W2, N, B, N1, B1, N2, B2, K, S, M, E, Z, hXI, hMI⟩ := hI
  refine lv_aload_n hx hb dL_law_990 rfl (lv_at hl 2 rfl) ?_
  refine lv_aload_n hx hb dL_law_991 rfl (lv_at hl 3 rfl) ?_
  refine lv_iload_n hx hb dL_law_992 rfl (lv_at hl 0 rfl) ?_
  refine lv_iconst (v := 1) hx hb dL_law_993 (by decide) ?_
  refine lv_iadd hx hb dL_law_994 ?_
  refine lv_cg (y := nI (5 * k + 1)) (by rw [show (1 : Int32) = nI 1 from rfl]; exact nI_add _ _) ?_
  refine va_sld hx hb hX hbl hbA hS (vp_in_nI (by omega) (by omega)) dL_law_995 ?_
  refine lv_cg (y := xs (5 * k + 1)) (by rw [nI_clamp (by omega)]) ?_
  refine va_calli (va_runV (As := [.int (xs (5 * k + 1))]) (rest := []) ⟨hx, hb, hml, hown, hg⟩ (k_X10_forgetE l dC dI G _ ax hi T Y fa W0 W1 W2 N B N1 B1 N2 B2 K S M E Z (xs (5 * k + 1))) (kwV hg mfX10_forget wt_738 ⟨Nat.le_of_ble_eq_true rfl, Nat.le_of_ble_eq_true rfl⟩) (preVI hK hXI (hXI.recv hK)) rfl rfl hl.1 rfl (lv_room (Nat.le_of_ble_eq_true rfl)) dL_law_996 ⟨Nat.le_of_ble_eq_true rfl, Nat.le_of_ble_eq_true rfl⟩) hS (fun q _ h => ad_A hAx hA (by decide) hS q h) (ad_A hAx hA (by decide) hS) (fun r1 u1 t1 H1 locs1 ht1 hv1 w1 hB1 hz1 hk1 hS => ?_)
  have hMI := hMI.kept (fr_ad (lo := 0) (hi := 112) hi (by decide) (by decide) (by decide) hk1)
  have hXI : X10I dC dI G ax T Y fa W0 W1 W2 N B N1 B1 N2 B2 K (if 0 ≤ (xs (5 * k + 1)).toInt ∧ (xs (5 * k + 1)).toInt ≤ ((S : Nat) : Int) then (xs (5 * k + 1)).toNatClampNeg else S) M E Z H1 := by rw [← ht1]; exact hB1
  refine W.widen (k := 129) (n := 4562) (by omega) (by omega) ?_
  refine lv_pop hx hb dL_law_999 rfl ?_
  refine lv_aload_n hx hb dL_law_1000 rfl (lv_at hl 1 rfl) ?_
  refine lv_aload_n hx hb dL_law_1001 rfl (lv_at hl 3 rfl) ?_
  refine lv_iload_n hx hb dL_law_1002 rfl (lv_at hl 0 rfl) ?_
  refine lv_iconst (v := 1) hx hb dL_law_1003 (by decide) ?_
  refine lv_iadd hx hb dL_law_1004 ?_
  refine lv_cg (y := nI (5 * k + 1)) (by rw [show (1 : Int32) = nI 1 from rfl]; exact nI_add _ _) ?_
  refine va_sld hx hb hX hbl hbA hS (vp_in_nI (by omega) (by omega)) dL_law_1005 ?_
  refine lv_cg (y := xs (5 * k + 1)) (by rw [nI_clamp (by omega)]) ?_
  refine va_calli (va_runV (As := [.int (xs (5 * k + 1))]) (rest := []) ⟨hx, hb, hml, hown, hg⟩ (k_X11_forgetE l dC dI G _ ax hi T Y fa W0 W1 W2 N B N1 B1 N2 B2 K S M E Z (xs (5 * k + 1))) (kwV hg mfX11_forget wt_1200 ⟨Nat.le_of_ble_eq_true rfl, Nat.le_of_ble_eq_true rfl⟩) (preVI hK hMI (hMI.recv hK)) rfl rfl hl.1 rfl (lv_room (Nat.le_of_ble_eq_true rfl)) dL_law_1006 ⟨Nat.le_of_ble_eq_true rfl, Nat.le_of_ble_eq_true rfl⟩) hS (fun q _ h => ad_A hAx hA (by decide) hS q h) (ad_A hAx hA (by decide) hS) (fun r2 u2 t2 H2 locs2 ht2 hv2 w2 hB2 hz2 hk2 hS => ?_)
  have hXI := hXI.kept (fr_ad (lo := 112) (hi := 129) hi (by decide) (by decide) (by decide) hk2)
  have hMI : X11I dC dI G ax T Y fa W0 W1 W2 N B N1 B1 N2 B2 K (if 0 ≤ (xs (5 * k + 1)).toInt ∧ (xs (5 * k + 1)).toInt ≤ ((S : Nat) : Int) then (xs (5 * k + 1)).toNatClampNeg else S) M E Z H2 := by rw [← ht2]; exact hB2
  refine W.widen (k := 129) (n := 4562) (by omega) (by omega) ?_
  refine lv_pop hx hb dL_law_1009 rfl ?_
  refine lv_goto (tgt := 1382) hx hb dL_law_1010 (by decide) ?_
  exact kk _ _ ⟨_, _, _, _, _, _, _, _, _, _, _, _, _, _, _, _, _, hXI, hMI⟩ hS

set_option maxHeartbeats 1000000 in
set_option maxRecDepth 100000 in
theorem lc_steps {p : Program} {l : Launch} {e : Env} {s : State} {m : MethodId} {below : List Frame} {meth : Method} {c : Code} {b L : Nat} {xs : Nat → Int32} {dC : Nat → ClassId} {dI : Nat → Nat → Nat} {G : Nat → ClassId} {ax adK adV : Nat → Nat} {A : Nat → Prop} {Q : State → Prop} (C1 : lw_C p s m c b L xs dC dI G ax adK adV A) {k : Nat} (hk : 5 * k + 5 ≤ L) (hL : L ≤ 2560) {H : Heap} {locs : List Loc} {ls : Array Slot} (hI : LI dC dI G ax H) (hS : va_S A s.heap H locs) (hl : lv_has ls 4 [(3, .int (nI (5 * k))), (2, .ref (ax 112)), (1, .ref (ax 0)), (0, .ref b)]) (kk : ∀ (H : Heap) (locs : List Loc), LI dC dI G ax H → va_S A s.heap H locs → W p l e room_1 s m #[Value.ref b] below meth c H locs 129 4562 Q (F0 m 1382 ls [])) : W p l e room_1 s m #[Value.ref b] below meth c H locs 129 4562 Q (F0 m 1013 ls []) := by
  obtain ⟨hx, hb, hml, hown, hg, hX, hbl, hbA, hK, hi, hAx, hA, hSS⟩ := C1
  obtain ⟨T, Y, fa, W0, W1, W2, N, B, N1, B1, N2, B2, K, S, M, E, Z, hXI, hMI⟩ := hI
  refine lv_aload_n hx hb dL_law_1013 rfl (lv_at hl 2 rfl) ?_
  refine lv_aload_n hx hb dL_law_1014 rfl (lv_at hl 3 rfl) ?_
  refine lv_iload_n hx hb dL_law_1015 rfl (lv_at hl 0 rfl) ?_
  refine lv_iconst (v := 1) hx hb dL_law_1016 (by decide) ?_
  refine lv_iadd hx hb dL_law_1017 ?_
  refine lv_cg (y := nI (5 * k + 1)) (by rw [show (1 : Int32) = nI 1 from rfl]; exact nI_add _ _) ?_
  refine va_sld hx hb hX hbl hbA hS (vp_in_nI (by omega) (by omega)) dL_law_1018 ?_
  refine lv_cg (y := xs (5 * k + 1)) (by rw [nI_clamp (by omega)]) ?_
  refine lv_aload_n hx hb dL_law_1019 rfl (lv_at hl 3 rfl) ?_
  refine lv_iload_n hx hb dL_law_1020 rfl (lv_at hl 0 rfl) ?_
  refine lv_iconst (v := 2) hx hb dL_law_1021 (by decide) ?_
  refine lv_iadd hx hb dL_law_1022 ?_
  refine lv_cg (y := nI (5 * k + 2)) (by rw [show (2 : Int32) = nI 2 from rfl]; exact nI_add _ _) ?_
  refine va_sld hx hb hX hbl hbA hS (vp_in_nI (by omega) (by omega)) dL_law_1023 ?_
  refine lv_cg (y := xs (5 * k + 2)) (by rw [nI_clamp (by omega)]) ?_
  refine va_calli (va_runV (As := [.int (xs (5 * k + 1)), .int (xs (5 * k + 2))]) (rest := []) ⟨hx, hb, hml, hown, hg⟩ (k_X10_steps l dC dI G _ ax hi T Y fa W0 W1 W2 N B N1 B1 N2 B2 K S M E Z (xs (5 * k + 1)) (xs (5 * k + 2))) (kwV hg mfX10_steps wt_742 ⟨Nat.le_of_ble_eq_true rfl, Nat.le_of_ble_eq_true rfl⟩) (preVI hK hXI (hXI.recv hK)) rfl rfl hl.1 rfl (lv_room (Nat.le_of_ble_eq_true rfl)) dL_law_1024 ⟨Nat.le_of_ble_eq_true rfl, Nat.le_of_ble_eq_true rfl⟩) hS (fun q _ h => ad_A hAx hA (by decide) hS q h) (ad_A hAx hA (by decide) hS) (fun r1 u1 t1 H1 locs1 ht1 hv1 w1 hB1 hz1 hk1 hS => ?_)
  have hMI := hMI.kept (fr_ad (lo := 0) (hi := 112) hi (by decide) (by decide) (by decide) hk1)
  have hXI : X10I dC dI G ax T Y fa W0 W1 W2 N B N1 B1 N2 B2 K S M E Z H1 := by rw [← ht1]; exact hB1
  refine W.widen (k := 129) (n := 4562) (by omega) (by omega) ?_
  refine lv_pop hx hb dL_law_1027 rfl ?_
  refine lv_aload_n hx hb dL_law_1028 rfl (lv_at hl 1 rfl) ?_
  refine lv_aload_n hx hb dL_law_1029 rfl (lv_at hl 3 rfl) ?_
  refine lv_iload_n hx hb dL_law_1030 rfl (lv_at hl 0 rfl) ?_
  refine lv_iconst (v := 1) hx hb dL_law_1031 (by decide) ?_
  refine lv_iadd hx hb dL_law_1032 ?_
  refine lv_cg (y := nI (5 * k + 1)) (by rw [show (1 : Int32) = nI 1 from rfl]; exact nI_add _ _) ?_
  refine va_sld hx hb hX hbl hbA hS (vp_in_nI (by omega) (by omega)) dL_law_1033 ?_
  refine lv_cg (y := xs (5 * k + 1)) (by rw [nI_clamp (by omega)]) ?_
  refine lv_aload_n hx hb dL_law_1034 rfl (lv_at hl 3 rfl) ?_
  refine lv_iload_n hx hb dL_law_1035 rfl (lv_at hl 0 rfl) ?_
  refine lv_iconst (v := 2) hx hb dL_law_1036 (by decide) ?_
  refine lv_iadd hx hb dL_law_1037 ?_
  refine lv_cg (y := nI (5 * k + 2)) (by rw [show (2 : Int32) = nI 2 from rfl]; exact nI_add _ _) ?_
  refine va_sld hx hb hX hbl hbA hS (vp_in_nI (by omega) (by omega)) dL_law_1038 ?_
  refine lv_cg (y := xs (5 * k + 2)) (by rw [nI_clamp (by omega)]) ?_
  refine va_calli (va_runV (As := [.int (xs (5 * k + 1)), .int (xs (5 * k + 2))]) (rest := []) ⟨hx, hb, hml, hown, hg⟩ (k_X11_stepsW l dC dI G _ ax hi T Y fa W0 W1 W2 N B N1 B1 N2 B2 K S M E Z (xs (5 * k + 1)) (xs (5 * k + 2))) (kwV hg mfX11_steps wt_1204 ⟨Nat.le_of_ble_eq_true rfl, Nat.le_of_ble_eq_true rfl⟩) (preVI hK hMI (hMI.recv hK)) rfl rfl hl.1 rfl (lv_room (Nat.le_of_ble_eq_true rfl)) dL_law_1039 ⟨Nat.le_of_ble_eq_true rfl, Nat.le_of_ble_eq_true rfl⟩) hS (fun q _ h => ad_A hAx hA (by decide) hS q h) (ad_A hAx hA (by decide) hS) (fun r2 u2 t2 H2 locs2 ht2 hv2 w2 hB2 hz2 hk2 hS => ?_)
  have hXI := hXI.kept (fr_ad (lo := 112) (hi := 129) hi (by decide) (by decide) (by decide) hk2)
  have hMI : X11I dC dI G ax T Y fa W0 W1 W2 N B N1 B1 N2 B2 K S M E Z H2 := by rw [← ht2]; exact hB2
  refine W.widen (k := 129) (n := 4562) (by omega) (by omega) ?_
  refine lv_pop hx hb dL_law_1042 rfl ?_
  refine lv_goto (tgt := 1382) hx hb dL_law_1043 (by decide) ?_
  exact kk _ _ ⟨_, _, _, _, _, _, _, _, _, _, _, _, _, _, _, _, _, hXI, hMI⟩ hS

set_option maxHeartbeats 1000000 in
set_option maxRecDepth 100000 in
theorem lc_mark {p : Program} {l : Launch} {e : Env} {s : State} {m : MethodId} {below : List Frame} {meth : Method} {c : Code} {b L : Nat} {xs : Nat → Int32} {dC : Nat → ClassId} {dI : Nat → Nat → Nat} {G : Nat → ClassId} {ax adK adV : Nat → Nat} {A : Nat → Prop} {Q : State → Prop} (C1 : lw_C p s m c b L xs dC dI G ax adK adV A) {k : Nat} (hk : 5 * k + 5 ≤ L) (hL : L ≤ 2560) {H : Heap} {locs : List Loc} {ls : Array Slot} (hI : LI dC dI G ax H) (hS : va_S A s.heap H locs) (hl : lv_has ls 4 [(3, .int (nI (5 * k))), (2, .ref (ax 112)), (1, .ref (ax 0)), (0, .ref b)]) (kk : ∀ (H : Heap) (locs : List Loc), LI dC dI G ax H → va_S A s.heap H locs → W p l e room_1 s m #[Value.ref b] below meth c H locs 129 4562 Q (F0 m 1382 ls [])) : W p l e room_1 s m #[Value.ref b] below meth c H locs 129 4562 Q (F0 m 1046 ls []) := by
  obtain ⟨hx, hb, hml, hown, hg, hX, hbl, hbA, hK, hi, hAx, hA, hSS⟩ := C1
  obtain ⟨T, Y, fa, W0, W1, W2, N, B, N1, B1, N2, B2, K, S, M, E, Z, hXI, hMI⟩ := hI
  refine lv_aload_n hx hb dL_law_1046 rfl (lv_at hl 2 rfl) ?_
  refine lv_aload_n hx hb dL_law_1047 rfl (lv_at hl 3 rfl) ?_
  refine lv_iload_n hx hb dL_law_1048 rfl (lv_at hl 0 rfl) ?_
  refine lv_iconst (v := 1) hx hb dL_law_1049 (by decide) ?_
  refine lv_iadd hx hb dL_law_1050 ?_
  refine lv_cg (y := nI (5 * k + 1)) (by rw [show (1 : Int32) = nI 1 from rfl]; exact nI_add _ _) ?_
  refine va_sld hx hb hX hbl hbA hS (vp_in_nI (by omega) (by omega)) dL_law_1051 ?_
  refine lv_cg (y := xs (5 * k + 1)) (by rw [nI_clamp (by omega)]) ?_
  refine lv_aload_n hx hb dL_law_1052 rfl (lv_at hl 3 rfl) ?_
  refine lv_iload_n hx hb dL_law_1053 rfl (lv_at hl 0 rfl) ?_
  refine lv_iconst (v := 2) hx hb dL_law_1054 (by decide) ?_
  refine lv_iadd hx hb dL_law_1055 ?_
  refine lv_cg (y := nI (5 * k + 2)) (by rw [show (2 : Int32) = nI 2 from rfl]; exact nI_add _ _) ?_
  refine va_sld hx hb hX hbl hbA hS (vp_in_nI (by omega) (by omega)) dL_law_1056 ?_
  refine lv_cg (y := xs (5 * k + 2)) (by rw [nI_clamp (by omega)]) ?_
  refine va_calli (va_runV (As := [.int (xs (5 * k + 1)), .int (xs (5 * k + 2))]) (rest := []) ⟨hx, hb, hml, hown, hg⟩ (k_X10_markE l dC dI G _ ax hi T Y fa W0 W1 W2 N B N1 B1 N2 B2 K S M E Z (xs (5 * k + 1)) (xs (5 * k + 2))) (kwV hg mfX10_mark wt_751 ⟨Nat.le_of_ble_eq_true rfl, Nat.le_of_ble_eq_true rfl⟩) (preVI hK hXI (hXI.recv hK)) rfl rfl hl.1 rfl (lv_room (Nat.le_of_ble_eq_true rfl)) dL_law_1057 ⟨Nat.le_of_ble_eq_true rfl, Nat.le_of_ble_eq_true rfl⟩) hS (fun q _ h => ad_A hAx hA (by decide) hS q h) (ad_A hAx hA (by decide) hS) (fun r1 u1 t1 H1 locs1 ht1 hv1 w1 hB1 hz1 hk1 hS => ?_)
  have hMI := hMI.kept (fr_ad (lo := 0) (hi := 112) hi (by decide) (by decide) (by decide) hk1)
  have hXI : X10I dC dI G ax T Y fa W0 W1 W2 N B N1 B1 N2 B2 K S (if ((0 ≤ (xs (5 * k + 1)).toInt ∧ (xs (5 * k + 1)).toInt < ((N : Nat) : Int)) ∧ 0 ≤ (xs (5 * k + 2)).toInt ∧ (xs (5 * k + 2)).toInt ≤ 9) ∧ M < 6 then M + 1 else M) E Z H1 := by rw [← ht1]; exact hB1
  refine W.widen (k := 129) (n := 4562) (by omega) (by omega) ?_
  refine lv_pop hx hb dL_law_1060 rfl ?_
  refine lv_aload_n hx hb dL_law_1061 rfl (lv_at hl 1 rfl) ?_
  refine lv_aload_n hx hb dL_law_1062 rfl (lv_at hl 3 rfl) ?_
  refine lv_iload_n hx hb dL_law_1063 rfl (lv_at hl 0 rfl) ?_
  refine lv_iconst (v := 1) hx hb dL_law_1064 (by decide) ?_
  refine lv_iadd hx hb dL_law_1065 ?_
  refine lv_cg (y := nI (5 * k + 1)) (by rw [show (1 : Int32) = nI 1 from rfl]; exact nI_add _ _) ?_
  refine va_sld hx hb hX hbl hbA hS (vp_in_nI (by omega) (by omega)) dL_law_1066 ?_
  refine lv_cg (y := xs (5 * k + 1)) (by rw [nI_clamp (by omega)]) ?_
  refine lv_aload_n hx hb dL_law_1067 rfl (lv_at hl 3 rfl) ?_
  refine lv_iload_n hx hb dL_law_1068 rfl (lv_at hl 0 rfl) ?_
  refine lv_iconst (v := 2) hx hb dL_law_1069 (by decide) ?_
  refine lv_iadd hx hb dL_law_1070 ?_
  refine lv_cg (y := nI (5 * k + 2)) (by rw [show (2 : Int32) = nI 2 from rfl]; exact nI_add _ _) ?_
  refine va_sld hx hb hX hbl hbA hS (vp_in_nI (by omega) (by omega)) dL_law_1071 ?_
  refine lv_cg (y := xs (5 * k + 2)) (by rw [nI_clamp (by omega)]) ?_
  refine va_calli (va_runV (As := [.int (xs (5 * k + 1)), .int (xs (5 * k + 2))]) (rest := []) ⟨hx, hb, hml, hown, hg⟩ (k_X11_markE l dC dI G _ ax hi T Y fa W0 W1 W2 N B N1 B1 N2 B2 K S M E Z (xs (5 * k + 1)) (xs (5 * k + 2))) (kwV hg mfX11_mark wt_1208 ⟨Nat.le_of_ble_eq_true rfl, Nat.le_of_ble_eq_true rfl⟩) (preVI hK hMI (hMI.recv hK)) rfl rfl hl.1 rfl (lv_room (Nat.le_of_ble_eq_true rfl)) dL_law_1072 ⟨Nat.le_of_ble_eq_true rfl, Nat.le_of_ble_eq_true rfl⟩) hS (fun q _ h => ad_A hAx hA (by decide) hS q h) (ad_A hAx hA (by decide) hS) (fun r2 u2 t2 H2 locs2 ht2 hv2 w2 hB2 hz2 hk2 hS => ?_)
  have hXI := hXI.kept (fr_ad (lo := 112) (hi := 129) hi (by decide) (by decide) (by decide) hk2)
  have hMI : X11I dC dI G ax T Y fa W0 W1 W2 N B N1 B1 N2 B2 K S (if ((0 ≤ (xs (5 * k + 1)).toInt ∧ (xs (5 * k + 1)).toInt < ((N : Nat) : Int)) ∧ 0 ≤ (xs (5 * k + 2)).toInt ∧ (xs (5 * k + 2)).toInt ≤ 9) ∧ M < 6 then M + 1 else M) E Z H2 := by rw [← ht2]; exact hB2
  refine W.widen (k := 129) (n := 4562) (by omega) (by omega) ?_
  refine lv_pop hx hb dL_law_1075 rfl ?_
  refine lv_goto (tgt := 1382) hx hb dL_law_1076 (by decide) ?_
  exact kk _ _ ⟨_, _, _, _, _, _, _, _, _, _, _, _, _, _, _, _, _, hXI, hMI⟩ hS

set_option maxHeartbeats 1000000 in
set_option maxRecDepth 100000 in
theorem lc_wipe {p : Program} {l : Launch} {e : Env} {s : State} {m : MethodId} {below : List Frame} {meth : Method} {c : Code} {b L : Nat} {xs : Nat → Int32} {dC : Nat → ClassId} {dI : Nat → Nat → Nat} {G : Nat → ClassId} {ax adK adV : Nat → Nat} {A : Nat → Prop} {Q : State → Prop} (C1 : lw_C p s m c b L xs dC dI G ax adK adV A) {k : Nat} (hk : 5 * k + 5 ≤ L) (hL : L ≤ 2560) {H : Heap} {locs : List Loc} {ls : Array Slot} (hI : LI dC dI G ax H) (hS : va_S A s.heap H locs) (hl : lv_has ls 4 [(3, .int (nI (5 * k))), (2, .ref (ax 112)), (1, .ref (ax 0)), (0, .ref b)]) (kk : ∀ (H : Heap) (locs : List Loc), LI dC dI G ax H → va_S A s.heap H locs → W p l e room_1 s m #[Value.ref b] below meth c H locs 129 4562 Q (F0 m 1382 ls [])) : W p l e room_1 s m #[Value.ref b] below meth c H locs 129 4562 Q (F0 m 1079 ls []) := by
  obtain ⟨hx, hb, hml, hown, hg, hX, hbl, hbA, hK, hi, hAx, hA, hSS⟩ := C1
  obtain ⟨T, Y, fa, W0, W1, W2, N, B, N1, B1, N2, B2, K, S, M, E, Z, hXI, hMI⟩ := hI
  refine lv_aload_n hx hb dL_law_1079 rfl (lv_at hl 2 rfl) ?_
  refine lv_aload_n hx hb dL_law_1080 rfl (lv_at hl 3 rfl) ?_
  refine lv_iload_n hx hb dL_law_1081 rfl (lv_at hl 0 rfl) ?_
  refine lv_iconst (v := 1) hx hb dL_law_1082 (by decide) ?_
  refine lv_iadd hx hb dL_law_1083 ?_
  refine lv_cg (y := nI (5 * k + 1)) (by rw [show (1 : Int32) = nI 1 from rfl]; exact nI_add _ _) ?_
  refine va_sld hx hb hX hbl hbA hS (vp_in_nI (by omega) (by omega)) dL_law_1084 ?_
  refine lv_cg (y := xs (5 * k + 1)) (by rw [nI_clamp (by omega)]) ?_
  refine va_calli (va_runV (As := [.int (xs (5 * k + 1))]) (rest := []) ⟨hx, hb, hml, hown, hg⟩ (k_X10_wipeE l dC dI G _ ax hi T Y fa W0 W1 W2 N B N1 B1 N2 B2 K S M E Z (xs (5 * k + 1))) (kwV hg mfX10_wipe wt_759 ⟨Nat.le_of_ble_eq_true rfl, Nat.le_of_ble_eq_true rfl⟩) (preVI hK hXI (hXI.recv hK)) rfl rfl hl.1 rfl (lv_room (Nat.le_of_ble_eq_true rfl)) dL_law_1085 ⟨Nat.le_of_ble_eq_true rfl, Nat.le_of_ble_eq_true rfl⟩) hS (fun q _ h => ad_A hAx hA (by decide) hS q h) (ad_A hAx hA (by decide) hS) (fun r1 u1 t1 H1 locs1 ht1 hv1 w1 hB1 hz1 hk1 hS => ?_)
  have hMI := hMI.kept (fr_ad (lo := 0) (hi := 112) hi (by decide) (by decide) (by decide) hk1)
  have hXI : X10I dC dI G ax T Y fa W0 W1 W2 N B N1 B1 N2 B2 K S (if 0 ≤ (xs (5 * k + 1)).toInt ∧ (xs (5 * k + 1)).toInt ≤ ((M : Nat) : Int) then (xs (5 * k + 1)).toNatClampNeg else M) E Z H1 := by rw [← ht1]; exact hB1
  refine W.widen (k := 129) (n := 4562) (by omega) (by omega) ?_
  refine lv_pop hx hb dL_law_1088 rfl ?_
  refine lv_aload_n hx hb dL_law_1089 rfl (lv_at hl 1 rfl) ?_
  refine lv_aload_n hx hb dL_law_1090 rfl (lv_at hl 3 rfl) ?_
  refine lv_iload_n hx hb dL_law_1091 rfl (lv_at hl 0 rfl) ?_
  refine lv_iconst (v := 1) hx hb dL_law_1092 (by decide) ?_
  refine lv_iadd hx hb dL_law_1093 ?_
  refine lv_cg (y := nI (5 * k + 1)) (by rw [show (1 : Int32) = nI 1 from rfl]; exact nI_add _ _) ?_
  refine va_sld hx hb hX hbl hbA hS (vp_in_nI (by omega) (by omega)) dL_law_1094 ?_
  refine lv_cg (y := xs (5 * k + 1)) (by rw [nI_clamp (by omega)]) ?_
  refine va_calli (va_runV (As := [.int (xs (5 * k + 1))]) (rest := []) ⟨hx, hb, hml, hown, hg⟩ (k_X11_wipeE l dC dI G _ ax hi T Y fa W0 W1 W2 N B N1 B1 N2 B2 K S M E Z (xs (5 * k + 1))) (kwV hg mfX11_wipe wt_1212 ⟨Nat.le_of_ble_eq_true rfl, Nat.le_of_ble_eq_true rfl⟩) (preVI hK hMI (hMI.recv hK)) rfl rfl hl.1 rfl (lv_room (Nat.le_of_ble_eq_true rfl)) dL_law_1095 ⟨Nat.le_of_ble_eq_true rfl, Nat.le_of_ble_eq_true rfl⟩) hS (fun q _ h => ad_A hAx hA (by decide) hS q h) (ad_A hAx hA (by decide) hS) (fun r2 u2 t2 H2 locs2 ht2 hv2 w2 hB2 hz2 hk2 hS => ?_)
  have hXI := hXI.kept (fr_ad (lo := 112) (hi := 129) hi (by decide) (by decide) (by decide) hk2)
  have hMI : X11I dC dI G ax T Y fa W0 W1 W2 N B N1 B1 N2 B2 K S (if 0 ≤ (xs (5 * k + 1)).toInt ∧ (xs (5 * k + 1)).toInt ≤ ((M : Nat) : Int) then (xs (5 * k + 1)).toNatClampNeg else M) E Z H2 := by rw [← ht2]; exact hB2
  refine W.widen (k := 129) (n := 4562) (by omega) (by omega) ?_
  refine lv_pop hx hb dL_law_1098 rfl ?_
  refine lv_goto (tgt := 1382) hx hb dL_law_1099 (by decide) ?_
  exact kk _ _ ⟨_, _, _, _, _, _, _, _, _, _, _, _, _, _, _, _, _, hXI, hMI⟩ hS

set_option maxHeartbeats 1000000 in
set_option maxRecDepth 100000 in
theorem lc_paths {p : Program} {l : Launch} {e : Env} {s : State} {m : MethodId} {below : List Frame} {meth : Method} {c : Code} {b L : Nat} {xs : Nat → Int32} {dC : Nat → ClassId} {dI : Nat → Nat → Nat} {G : Nat → ClassId} {ax adK adV : Nat → Nat} {A : Nat → Prop} {Q : State → Prop} (C1 : lw_C p s m c b L xs dC dI G ax adK adV A) {k : Nat} (hk : 5 * k + 5 ≤ L) (hL : L ≤ 2560) {H : Heap} {locs : List Loc} {ls : Array Slot} (hI : LI dC dI G ax H) (hS : va_S A s.heap H locs) (hl : lv_has ls 4 [(3, .int (nI (5 * k))), (2, .ref (ax 112)), (1, .ref (ax 0)), (0, .ref b)]) (kk : ∀ (H : Heap) (locs : List Loc), LI dC dI G ax H → va_S A s.heap H locs → W p l e room_1 s m #[Value.ref b] below meth c H locs 129 4562 Q (F0 m 1382 ls [])) : W p l e room_1 s m #[Value.ref b] below meth c H locs 129 4562 Q (F0 m 1102 ls []) := by
  obtain ⟨hx, hb, hml, hown, hg, hX, hbl, hbA, hK, hi, hAx, hA, hSS⟩ := C1
  obtain ⟨T, Y, fa, W0, W1, W2, N, B, N1, B1, N2, B2, K, S, M, E, Z, hXI, hMI⟩ := hI
  refine lv_aload_n hx hb dL_law_1102 rfl (lv_at hl 2 rfl) ?_
  refine va_calli (va_runV (As := []) (rest := []) ⟨hx, hb, hml, hown, hg⟩ (k_X10_paths l dC dI G _ ax hi T Y fa W0 W1 W2 N B N1 B1 N2 B2 K S M E Z) (kwV hg mfX10_paths wt_763 ⟨Nat.le_of_ble_eq_true rfl, Nat.le_of_ble_eq_true rfl⟩) (preVI hK hXI (hXI.recv hK)) rfl rfl hl.1 rfl (lv_room (Nat.le_of_ble_eq_true rfl)) dL_law_1103 ⟨Nat.le_of_ble_eq_true rfl, Nat.le_of_ble_eq_true rfl⟩) hS (fun q _ h => ad_A hAx hA (by decide) hS q h) (ad_A hAx hA (by decide) hS) (fun r1 u1 t1 H1 locs1 ht1 hv1 w1 hB1 hz1 hk1 hS => ?_)
  have hMI := hMI.kept (fr_ad (lo := 0) (hi := 112) hi (by decide) (by decide) (by decide) hk1)
  have hXI : X10I dC dI G ax T Y fa W0 W1 W2 N B N1 B1 N2 B2 K S M E Z H1 := by rw [← ht1]; exact hB1
  refine W.widen (k := 129) (n := 4562) (by omega) (by omega) ?_
  refine lv_pop hx hb dL_law_1106 rfl ?_
  refine lv_aload_n hx hb dL_law_1107 rfl (lv_at hl 1 rfl) ?_
  refine va_calli (va_runV (As := []) (rest := []) ⟨hx, hb, hml, hown, hg⟩ (k_X11_paths l dC dI G _ ax hi T Y fa W0 W1 W2 N B N1 B1 N2 B2 K S M E Z) (kwV hg mfX11_paths wt_1216 ⟨Nat.le_of_ble_eq_true rfl, Nat.le_of_ble_eq_true rfl⟩) (preVI hK hMI (hMI.recv hK)) rfl rfl hl.1 rfl (lv_room (Nat.le_of_ble_eq_true rfl)) dL_law_1108 ⟨Nat.le_of_ble_eq_true rfl, Nat.le_of_ble_eq_true rfl⟩) hS (fun q _ h => ad_A hAx hA (by decide) hS q h) (ad_A hAx hA (by decide) hS) (fun r2 u2 t2 H2 locs2 ht2 hv2 w2 hB2 hz2 hk2 hS => ?_)
  have hXI := hXI.kept (fr_ad (lo := 112) (hi := 129) hi (by decide) (by decide) (by decide) hk2)
  have hMI : X11I dC dI G ax T Y fa W0 W1 W2 N B N1 B1 N2 B2 K S M E Z H2 := by rw [← ht2]; exact hB2
  refine W.widen (k := 129) (n := 4562) (by omega) (by omega) ?_
  refine lv_pop hx hb dL_law_1111 rfl ?_
  refine lv_goto (tgt := 1382) hx hb dL_law_1112 (by decide) ?_
  exact kk _ _ ⟨_, _, _, _, _, _, _, _, _, _, _, _, _, _, _, _, _, hXI, hMI⟩ hS

set_option maxHeartbeats 1000000 in
set_option maxRecDepth 100000 in
theorem lc_eye {p : Program} {l : Launch} {e : Env} {s : State} {m : MethodId} {below : List Frame} {meth : Method} {c : Code} {b L : Nat} {xs : Nat → Int32} {dC : Nat → ClassId} {dI : Nat → Nat → Nat} {G : Nat → ClassId} {ax adK adV : Nat → Nat} {A : Nat → Prop} {Q : State → Prop} (C1 : lw_C p s m c b L xs dC dI G ax adK adV A) {k : Nat} (hk : 5 * k + 5 ≤ L) (hL : L ≤ 2560) {H : Heap} {locs : List Loc} {ls : Array Slot} (hI : LI dC dI G ax H) (hS : va_S A s.heap H locs) (hl : lv_has ls 4 [(3, .int (nI (5 * k))), (2, .ref (ax 112)), (1, .ref (ax 0)), (0, .ref b)]) (kk : ∀ (H : Heap) (locs : List Loc), LI dC dI G ax H → va_S A s.heap H locs → W p l e room_1 s m #[Value.ref b] below meth c H locs 129 4562 Q (F0 m 1382 ls [])) : W p l e room_1 s m #[Value.ref b] below meth c H locs 129 4562 Q (F0 m 1115 ls []) := by
  obtain ⟨hx, hb, hml, hown, hg, hX, hbl, hbA, hK, hi, hAx, hA, hSS⟩ := C1
  obtain ⟨T, Y, fa, W0, W1, W2, N, B, N1, B1, N2, B2, K, S, M, E, Z, hXI, hMI⟩ := hI
  refine lv_aload_n hx hb dL_law_1115 rfl (lv_at hl 2 rfl) ?_
  refine lv_aload_n hx hb dL_law_1116 rfl (lv_at hl 3 rfl) ?_
  refine lv_iload_n hx hb dL_law_1117 rfl (lv_at hl 0 rfl) ?_
  refine lv_iconst (v := 1) hx hb dL_law_1118 (by decide) ?_
  refine lv_iadd hx hb dL_law_1119 ?_
  refine lv_cg (y := nI (5 * k + 1)) (by rw [show (1 : Int32) = nI 1 from rfl]; exact nI_add _ _) ?_
  refine va_sld hx hb hX hbl hbA hS (vp_in_nI (by omega) (by omega)) dL_law_1120 ?_
  refine lv_cg (y := xs (5 * k + 1)) (by rw [nI_clamp (by omega)]) ?_
  refine va_calli (va_runV (As := [.int (xs (5 * k + 1))]) (rest := []) ⟨hx, hb, hml, hown, hg⟩ (k_X10_eye l dC dI G _ ax hi T Y fa W0 W1 W2 N B N1 B1 N2 B2 K S M E Z (xs (5 * k + 1))) (kwV hg mfX10_eye wt_788 ⟨Nat.le_of_ble_eq_true rfl, Nat.le_of_ble_eq_true rfl⟩) (preVI hK hXI (hXI.recv hK)) rfl rfl hl.1 rfl (lv_room (Nat.le_of_ble_eq_true rfl)) dL_law_1121 ⟨Nat.le_of_ble_eq_true rfl, Nat.le_of_ble_eq_true rfl⟩) hS (fun q _ h => ad_A hAx hA (by decide) hS q h) (ad_A hAx hA (by decide) hS) (fun r1 u1 t1 H1 locs1 ht1 hv1 w1 hB1 hz1 hk1 hS => ?_)
  have hMI := hMI.kept (fr_ad (lo := 0) (hi := 112) hi (by decide) (by decide) (by decide) hk1)
  have hXI : X10I dC dI G ax T Y fa W0 W1 W2 N B N1 B1 N2 B2 K S M E Z H1 := by rw [← ht1]; exact hB1
  refine W.widen (k := 129) (n := 4562) (by omega) (by omega) ?_
  refine lv_pop hx hb dL_law_1124 rfl ?_
  refine lv_aload_n hx hb dL_law_1125 rfl (lv_at hl 1 rfl) ?_
  refine lv_aload_n hx hb dL_law_1126 rfl (lv_at hl 3 rfl) ?_
  refine lv_iload_n hx hb dL_law_1127 rfl (lv_at hl 0 rfl) ?_
  refine lv_iconst (v := 1) hx hb dL_law_1128 (by decide) ?_
  refine lv_iadd hx hb dL_law_1129 ?_
  refine lv_cg (y := nI (5 * k + 1)) (by rw [show (1 : Int32) = nI 1 from rfl]; exact nI_add _ _) ?_
  refine va_sld hx hb hX hbl hbA hS (vp_in_nI (by omega) (by omega)) dL_law_1130 ?_
  refine lv_cg (y := xs (5 * k + 1)) (by rw [nI_clamp (by omega)]) ?_
  refine va_calli (va_runV (As := [.int (xs (5 * k + 1))]) (rest := []) ⟨hx, hb, hml, hown, hg⟩ (k_X11_eye l dC dI G _ ax hi T Y fa W0 W1 W2 N B N1 B1 N2 B2 K S M E Z (xs (5 * k + 1))) (kwV hg mfX11_eye wt_1236 ⟨Nat.le_of_ble_eq_true rfl, Nat.le_of_ble_eq_true rfl⟩) (preVI hK hMI (hMI.recv hK)) rfl rfl hl.1 rfl (lv_room (Nat.le_of_ble_eq_true rfl)) dL_law_1131 ⟨Nat.le_of_ble_eq_true rfl, Nat.le_of_ble_eq_true rfl⟩) hS (fun q _ h => ad_A hAx hA (by decide) hS q h) (ad_A hAx hA (by decide) hS) (fun r2 u2 t2 H2 locs2 ht2 hv2 w2 hB2 hz2 hk2 hS => ?_)
  have hXI := hXI.kept (fr_ad (lo := 112) (hi := 129) hi (by decide) (by decide) (by decide) hk2)
  have hMI : X11I dC dI G ax T Y fa W0 W1 W2 N B N1 B1 N2 B2 K S M E Z H2 := by rw [← ht2]; exact hB2
  refine W.widen (k := 129) (n := 4562) (by omega) (by omega) ?_
  refine lv_pop hx hb dL_law_1134 rfl ?_
  refine lv_goto (tgt := 1382) hx hb dL_law_1135 (by decide) ?_
  exact kk _ _ ⟨_, _, _, _, _, _, _, _, _, _, _, _, _, _, _, _, _, hXI, hMI⟩ hS

set_option maxHeartbeats 1000000 in
set_option maxRecDepth 100000 in
theorem lc_sure {p : Program} {l : Launch} {e : Env} {s : State} {m : MethodId} {below : List Frame} {meth : Method} {c : Code} {b L : Nat} {xs : Nat → Int32} {dC : Nat → ClassId} {dI : Nat → Nat → Nat} {G : Nat → ClassId} {ax adK adV : Nat → Nat} {A : Nat → Prop} {Q : State → Prop} (C1 : lw_C p s m c b L xs dC dI G ax adK adV A) {k : Nat} (hk : 5 * k + 5 ≤ L) (hL : L ≤ 2560) {H : Heap} {locs : List Loc} {ls : Array Slot} (hI : LI dC dI G ax H) (hS : va_S A s.heap H locs) (hl : lv_has ls 4 [(3, .int (nI (5 * k))), (2, .ref (ax 112)), (1, .ref (ax 0)), (0, .ref b)]) (kk : ∀ (H : Heap) (locs : List Loc), LI dC dI G ax H → va_S A s.heap H locs → W p l e room_1 s m #[Value.ref b] below meth c H locs 129 4562 Q (F0 m 1382 ls [])) : W p l e room_1 s m #[Value.ref b] below meth c H locs 129 4562 Q (F0 m 1138 ls []) := by
  obtain ⟨hx, hb, hml, hown, hg, hX, hbl, hbA, hK, hi, hAx, hA, hSS⟩ := C1
  obtain ⟨T, Y, fa, W0, W1, W2, N, B, N1, B1, N2, B2, K, S, M, E, Z, hXI, hMI⟩ := hI
  refine lv_aload_n hx hb dL_law_1138 rfl (lv_at hl 2 rfl) ?_
  refine lv_aload_n hx hb dL_law_1139 rfl (lv_at hl 3 rfl) ?_
  refine lv_iload_n hx hb dL_law_1140 rfl (lv_at hl 0 rfl) ?_
  refine lv_iconst (v := 1) hx hb dL_law_1141 (by decide) ?_
  refine lv_iadd hx hb dL_law_1142 ?_
  refine lv_cg (y := nI (5 * k + 1)) (by rw [show (1 : Int32) = nI 1 from rfl]; exact nI_add _ _) ?_
  refine va_sld hx hb hX hbl hbA hS (vp_in_nI (by omega) (by omega)) dL_law_1143 ?_
  refine lv_cg (y := xs (5 * k + 1)) (by rw [nI_clamp (by omega)]) ?_
  refine va_calli (va_runV (As := [.int (xs (5 * k + 1))]) (rest := []) ⟨hx, hb, hml, hown, hg⟩ (k_X10_sure l dC dI G _ ax hi T Y fa W0 W1 W2 N B N1 B1 N2 B2 K S M E Z (xs (5 * k + 1))) (kwV hg mfX10_sure wt_796 ⟨Nat.le_of_ble_eq_true rfl, Nat.le_of_ble_eq_true rfl⟩) (preVI hK hXI (hXI.recv hK)) rfl rfl hl.1 rfl (lv_room (Nat.le_of_ble_eq_true rfl)) dL_law_1144 ⟨Nat.le_of_ble_eq_true rfl, Nat.le_of_ble_eq_true rfl⟩) hS (fun q _ h => ad_A hAx hA (by decide) hS q h) (ad_A hAx hA (by decide) hS) (fun r1 u1 t1 H1 locs1 ht1 hv1 w1 hB1 hz1 hk1 hS => ?_)
  have hMI := hMI.kept (fr_ad (lo := 0) (hi := 112) hi (by decide) (by decide) (by decide) hk1)
  have hXI : X10I dC dI G ax T Y fa W0 W1 W2 N B N1 B1 N2 B2 K S M E Z H1 := by rw [← ht1]; exact hB1
  refine W.widen (k := 129) (n := 4562) (by omega) (by omega) ?_
  refine lv_pop hx hb dL_law_1147 rfl ?_
  refine lv_aload_n hx hb dL_law_1148 rfl (lv_at hl 1 rfl) ?_
  refine lv_aload_n hx hb dL_law_1149 rfl (lv_at hl 3 rfl) ?_
  refine lv_iload_n hx hb dL_law_1150 rfl (lv_at hl 0 rfl) ?_
  refine lv_iconst (v := 1) hx hb dL_law_1151 (by decide) ?_
  refine lv_iadd hx hb dL_law_1152 ?_
  refine lv_cg (y := nI (5 * k + 1)) (by rw [show (1 : Int32) = nI 1 from rfl]; exact nI_add _ _) ?_
  refine va_sld hx hb hX hbl hbA hS (vp_in_nI (by omega) (by omega)) dL_law_1153 ?_
  refine lv_cg (y := xs (5 * k + 1)) (by rw [nI_clamp (by omega)]) ?_
  refine va_calli (va_runV (As := [.int (xs (5 * k + 1))]) (rest := []) ⟨hx, hb, hml, hown, hg⟩ (k_X11_sure l dC dI G _ ax hi T Y fa W0 W1 W2 N B N1 B1 N2 B2 K S M E Z (xs (5 * k + 1))) (kwV hg mfX11_sure wt_1240 ⟨Nat.le_of_ble_eq_true rfl, Nat.le_of_ble_eq_true rfl⟩) (preVI hK hMI (hMI.recv hK)) rfl rfl hl.1 rfl (lv_room (Nat.le_of_ble_eq_true rfl)) dL_law_1154 ⟨Nat.le_of_ble_eq_true rfl, Nat.le_of_ble_eq_true rfl⟩) hS (fun q _ h => ad_A hAx hA (by decide) hS q h) (ad_A hAx hA (by decide) hS) (fun r2 u2 t2 H2 locs2 ht2 hv2 w2 hB2 hz2 hk2 hS => ?_)
  have hXI := hXI.kept (fr_ad (lo := 112) (hi := 129) hi (by decide) (by decide) (by decide) hk2)
  have hMI : X11I dC dI G ax T Y fa W0 W1 W2 N B N1 B1 N2 B2 K S M E Z H2 := by rw [← ht2]; exact hB2
  refine W.widen (k := 129) (n := 4562) (by omega) (by omega) ?_
  refine lv_pop hx hb dL_law_1157 rfl ?_
  refine lv_goto (tgt := 1382) hx hb dL_law_1158 (by decide) ?_
  exact kk _ _ ⟨_, _, _, _, _, _, _, _, _, _, _, _, _, _, _, _, _, hXI, hMI⟩ hS

set_option maxHeartbeats 1000000 in
set_option maxRecDepth 100000 in
theorem lc_keep {p : Program} {l : Launch} {e : Env} {s : State} {m : MethodId} {below : List Frame} {meth : Method} {c : Code} {b L : Nat} {xs : Nat → Int32} {dC : Nat → ClassId} {dI : Nat → Nat → Nat} {G : Nat → ClassId} {ax adK adV : Nat → Nat} {A : Nat → Prop} {Q : State → Prop} (C1 : lw_C p s m c b L xs dC dI G ax adK adV A) {k : Nat} (hk : 5 * k + 5 ≤ L) (hL : L ≤ 2560) {H : Heap} {locs : List Loc} {ls : Array Slot} (hI : LI dC dI G ax H) (hS : va_S A s.heap H locs) (hl : lv_has ls 4 [(3, .int (nI (5 * k))), (2, .ref (ax 112)), (1, .ref (ax 0)), (0, .ref b)]) (kk : ∀ (H : Heap) (locs : List Loc), LI dC dI G ax H → va_S A s.heap H locs → W p l e room_1 s m #[Value.ref b] below meth c H locs 129 4562 Q (F0 m 1382 ls [])) : W p l e room_1 s m #[Value.ref b] below meth c H locs 129 4562 Q (F0 m 1161 ls []) := by
  obtain ⟨hx, hb, hml, hown, hg, hX, hbl, hbA, hK, hi, hAx, hA, hSS⟩ := C1
  obtain ⟨T, Y, fa, W0, W1, W2, N, B, N1, B1, N2, B2, K, S, M, E, Z, hXI, hMI⟩ := hI
  refine lv_aload_n hx hb dL_law_1161 rfl (lv_at hl 2 rfl) ?_
  refine lv_aload_n hx hb dL_law_1162 rfl (lv_at hl 3 rfl) ?_
  refine lv_iload_n hx hb dL_law_1163 rfl (lv_at hl 0 rfl) ?_
  refine lv_iconst (v := 1) hx hb dL_law_1164 (by decide) ?_
  refine lv_iadd hx hb dL_law_1165 ?_
  refine lv_cg (y := nI (5 * k + 1)) (by rw [show (1 : Int32) = nI 1 from rfl]; exact nI_add _ _) ?_
  refine va_sld hx hb hX hbl hbA hS (vp_in_nI (by omega) (by omega)) dL_law_1166 ?_
  refine lv_cg (y := xs (5 * k + 1)) (by rw [nI_clamp (by omega)]) ?_
  refine va_calli (va_runV (As := [.int (xs (5 * k + 1))]) (rest := []) ⟨hx, hb, hml, hown, hg⟩ (k_X10_keepW l dC dI G _ ax hi T Y fa W0 W1 W2 N B N1 B1 N2 B2 K S M E Z (xs (5 * k + 1))) (kwV hg mfX10_keep wt_808 ⟨Nat.le_of_ble_eq_true rfl, Nat.le_of_ble_eq_true rfl⟩) (preVI hK hXI (hXI.recv hK)) rfl rfl hl.1 rfl (lv_room (Nat.le_of_ble_eq_true rfl)) dL_law_1167 ⟨Nat.le_of_ble_eq_true rfl, Nat.le_of_ble_eq_true rfl⟩) hS (fun q _ h => ad_A hAx hA (by decide) hS q h) (ad_A hAx hA (by decide) hS) (fun r1 u1 t1 H1 locs1 ht1 hv1 w1 hB1 hz1 hk1 hS => ?_)
  have hMI := hMI.kept (fr_ad (lo := 0) (hi := 112) hi (by decide) (by decide) (by decide) hk1)
  have hXI : X10I dC dI G ax T Y fa W0 (if (xs (5 * k + 1)) = 0 then W0 else W1) (if (xs (5 * k + 1)) = 1 then W0 else W2) N B (if (xs (5 * k + 1)) = 0 then N else N1) (if (xs (5 * k + 1)) = 0 then B else B1) (if (xs (5 * k + 1)) = 1 then N else N2) (if (xs (5 * k + 1)) = 1 then B else B2) (if (0 ≤ (xs (5 * k + 1)).toInt ∧ (xs (5 * k + 1)).toInt < 2) then upd K (xs (5 * k + 1)).toNatClampNeg 1 else K) S M E Z H1 := by rw [← ht1]; exact hB1
  refine W.widen (k := 129) (n := 4562) (by omega) (by omega) ?_
  refine lv_pop hx hb dL_law_1170 rfl ?_
  refine lv_aload_n hx hb dL_law_1171 rfl (lv_at hl 1 rfl) ?_
  refine lv_aload_n hx hb dL_law_1172 rfl (lv_at hl 3 rfl) ?_
  refine lv_iload_n hx hb dL_law_1173 rfl (lv_at hl 0 rfl) ?_
  refine lv_iconst (v := 1) hx hb dL_law_1174 (by decide) ?_
  refine lv_iadd hx hb dL_law_1175 ?_
  refine lv_cg (y := nI (5 * k + 1)) (by rw [show (1 : Int32) = nI 1 from rfl]; exact nI_add _ _) ?_
  refine va_sld hx hb hX hbl hbA hS (vp_in_nI (by omega) (by omega)) dL_law_1176 ?_
  refine lv_cg (y := xs (5 * k + 1)) (by rw [nI_clamp (by omega)]) ?_
  refine va_calli (va_runV (As := [.int (xs (5 * k + 1))]) (rest := []) ⟨hx, hb, hml, hown, hg⟩ (k_X11_keepW l dC dI G _ ax hi T Y fa W0 W1 W2 N B N1 B1 N2 B2 K S M E Z (xs (5 * k + 1))) (kwV hg mfX11_keep wt_1244 ⟨Nat.le_of_ble_eq_true rfl, Nat.le_of_ble_eq_true rfl⟩) (preVI hK hMI (hMI.recv hK)) rfl rfl hl.1 rfl (lv_room (Nat.le_of_ble_eq_true rfl)) dL_law_1177 ⟨Nat.le_of_ble_eq_true rfl, Nat.le_of_ble_eq_true rfl⟩) hS (fun q _ h => ad_A hAx hA (by decide) hS q h) (ad_A hAx hA (by decide) hS) (fun r2 u2 t2 H2 locs2 ht2 hv2 w2 hB2 hz2 hk2 hS => ?_)
  have hXI := hXI.kept (fr_ad (lo := 112) (hi := 129) hi (by decide) (by decide) (by decide) hk2)
  have hMI : X11I dC dI G ax T Y fa W0 (if (xs (5 * k + 1)) = 0 then W0 else W1) (if (xs (5 * k + 1)) = 1 then W0 else W2) N B (if (xs (5 * k + 1)) = 0 then N else N1) (if (xs (5 * k + 1)) = 0 then B else B1) (if (xs (5 * k + 1)) = 1 then N else N2) (if (xs (5 * k + 1)) = 1 then B else B2) (if (0 ≤ (xs (5 * k + 1)).toInt ∧ (xs (5 * k + 1)).toInt < 2) then upd K (xs (5 * k + 1)).toNatClampNeg 1 else K) S M E Z H2 := by rw [← ht2]; exact hB2
  refine W.widen (k := 129) (n := 4562) (by omega) (by omega) ?_
  refine lv_pop hx hb dL_law_1180 rfl ?_
  refine lv_goto (tgt := 1382) hx hb dL_law_1181 (by decide) ?_
  exact kk _ _ ⟨_, _, _, _, _, _, _, _, _, _, _, _, _, _, _, _, _, hXI, hMI⟩ hS

set_option maxHeartbeats 1000000 in
set_option maxRecDepth 100000 in
theorem lc_back {p : Program} {l : Launch} {e : Env} {s : State} {m : MethodId} {below : List Frame} {meth : Method} {c : Code} {b L : Nat} {xs : Nat → Int32} {dC : Nat → ClassId} {dI : Nat → Nat → Nat} {G : Nat → ClassId} {ax adK adV : Nat → Nat} {A : Nat → Prop} {Q : State → Prop} (C1 : lw_C p s m c b L xs dC dI G ax adK adV A) {k : Nat} (hk : 5 * k + 5 ≤ L) (hL : L ≤ 2560) {H : Heap} {locs : List Loc} {ls : Array Slot} (hI : LI dC dI G ax H) (hS : va_S A s.heap H locs) (hl : lv_has ls 4 [(3, .int (nI (5 * k))), (2, .ref (ax 112)), (1, .ref (ax 0)), (0, .ref b)]) (kk : ∀ (H : Heap) (locs : List Loc), LI dC dI G ax H → va_S A s.heap H locs → W p l e room_1 s m #[Value.ref b] below meth c H locs 129 4562 Q (F0 m 1382 ls [])) : W p l e room_1 s m #[Value.ref b] below meth c H locs 129 4562 Q (F0 m 1184 ls []) := by
  obtain ⟨hx, hb, hml, hown, hg, hX, hbl, hbA, hK, hi, hAx, hA, hSS⟩ := C1
  obtain ⟨T, Y, fa, W0, W1, W2, N, B, N1, B1, N2, B2, K, S, M, E, Z, hXI, hMI⟩ := hI
  refine lv_aload_n hx hb dL_law_1184 rfl (lv_at hl 2 rfl) ?_
  refine lv_aload_n hx hb dL_law_1185 rfl (lv_at hl 3 rfl) ?_
  refine lv_iload_n hx hb dL_law_1186 rfl (lv_at hl 0 rfl) ?_
  refine lv_iconst (v := 1) hx hb dL_law_1187 (by decide) ?_
  refine lv_iadd hx hb dL_law_1188 ?_
  refine lv_cg (y := nI (5 * k + 1)) (by rw [show (1 : Int32) = nI 1 from rfl]; exact nI_add _ _) ?_
  refine va_sld hx hb hX hbl hbA hS (vp_in_nI (by omega) (by omega)) dL_law_1189 ?_
  refine lv_cg (y := xs (5 * k + 1)) (by rw [nI_clamp (by omega)]) ?_
  refine va_calli (va_runV (As := [.int (xs (5 * k + 1))]) (rest := []) ⟨hx, hb, hml, hown, hg⟩ (k_X10_backW l dC dI G _ ax hi T Y fa W0 W1 W2 N B N1 B1 N2 B2 K S M E Z (xs (5 * k + 1))) (kwV hg mfX10_back wt_815 ⟨Nat.le_of_ble_eq_true rfl, Nat.le_of_ble_eq_true rfl⟩) (preVI hK hXI (hXI.recv hK)) rfl rfl hl.1 rfl (lv_room (Nat.le_of_ble_eq_true rfl)) dL_law_1190 ⟨Nat.le_of_ble_eq_true rfl, Nat.le_of_ble_eq_true rfl⟩) hS (fun q _ h => ad_A hAx hA (by decide) hS q h) (ad_A hAx hA (by decide) hS) (fun r1 u1 t1 H1 locs1 ht1 hv1 w1 hB1 hz1 hk1 hS => ?_)
  have hMI := hMI.kept (fr_ad (lo := 0) (hi := 112) hi (by decide) (by decide) (by decide) hk1)
  have hXI : X10I dC dI G ax T Y fa (bkW (xs (5 * k + 1)) K W0 W1 W2) W1 W2 N B N1 B1 N2 B2 K S M E Z H1 := by rw [← ht1]; exact hB1
  refine W.widen (k := 129) (n := 4562) (by omega) (by omega) ?_
  refine lv_pop hx hb dL_law_1193 rfl ?_
  refine lv_aload_n hx hb dL_law_1194 rfl (lv_at hl 1 rfl) ?_
  refine lv_aload_n hx hb dL_law_1195 rfl (lv_at hl 3 rfl) ?_
  refine lv_iload_n hx hb dL_law_1196 rfl (lv_at hl 0 rfl) ?_
  refine lv_iconst (v := 1) hx hb dL_law_1197 (by decide) ?_
  refine lv_iadd hx hb dL_law_1198 ?_
  refine lv_cg (y := nI (5 * k + 1)) (by rw [show (1 : Int32) = nI 1 from rfl]; exact nI_add _ _) ?_
  refine va_sld hx hb hX hbl hbA hS (vp_in_nI (by omega) (by omega)) dL_law_1199 ?_
  refine lv_cg (y := xs (5 * k + 1)) (by rw [nI_clamp (by omega)]) ?_
  refine va_calli (va_runV (As := [.int (xs (5 * k + 1))]) (rest := []) ⟨hx, hb, hml, hown, hg⟩ (k_X11_backW l dC dI G _ ax hi T Y fa W0 W1 W2 N B N1 B1 N2 B2 K S M E Z (xs (5 * k + 1))) (kwV hg mfX11_back wt_1252 ⟨Nat.le_of_ble_eq_true rfl, Nat.le_of_ble_eq_true rfl⟩) (preVI hK hMI (hMI.recv hK)) rfl rfl hl.1 rfl (lv_room (Nat.le_of_ble_eq_true rfl)) dL_law_1200 ⟨Nat.le_of_ble_eq_true rfl, Nat.le_of_ble_eq_true rfl⟩) hS (fun q _ h => ad_A hAx hA (by decide) hS q h) (ad_A hAx hA (by decide) hS) (fun r2 u2 t2 H2 locs2 ht2 hv2 w2 hB2 hz2 hk2 hS => ?_)
  have hXI := hXI.kept (fr_ad (lo := 112) (hi := 129) hi (by decide) (by decide) (by decide) hk2)
  have hMI : X11I dC dI G ax T Y fa (bkW (xs (5 * k + 1)) K W0 W1 W2) W1 W2 N B N1 B1 N2 B2 K S M E Z H2 := by rw [← ht2]; exact hB2
  refine W.widen (k := 129) (n := 4562) (by omega) (by omega) ?_
  refine lv_pop hx hb dL_law_1203 rfl ?_
  refine lv_goto (tgt := 1382) hx hb dL_law_1204 (by decide) ?_
  exact kk _ _ ⟨_, _, _, _, _, _, _, _, _, _, _, _, _, _, _, _, _, hXI, hMI⟩ hS

set_option maxHeartbeats 1000000 in
set_option maxRecDepth 100000 in
theorem lc_sheet {p : Program} {l : Launch} {e : Env} {s : State} {m : MethodId} {below : List Frame} {meth : Method} {c : Code} {b L : Nat} {xs : Nat → Int32} {dC : Nat → ClassId} {dI : Nat → Nat → Nat} {G : Nat → ClassId} {ax adK adV : Nat → Nat} {A : Nat → Prop} {Q : State → Prop} (C1 : lw_C p s m c b L xs dC dI G ax adK adV A) {k : Nat} (hk : 5 * k + 5 ≤ L) (hL : L ≤ 2560) {H : Heap} {locs : List Loc} {ls : Array Slot} (hI : LI dC dI G ax H) (hS : va_S A s.heap H locs) (hl : lv_has ls 4 [(3, .int (nI (5 * k))), (2, .ref (ax 112)), (1, .ref (ax 0)), (0, .ref b)]) (kk : ∀ (H : Heap) (locs : List Loc), LI dC dI G ax H → va_S A s.heap H locs → W p l e room_1 s m #[Value.ref b] below meth c H locs 129 4562 Q (F0 m 1382 ls [])) : W p l e room_1 s m #[Value.ref b] below meth c H locs 129 4562 Q (F0 m 1207 ls []) := by
  obtain ⟨hx, hb, hml, hown, hg, hX, hbl, hbA, hK, hi, hAx, hA, hSS⟩ := C1
  obtain ⟨T, Y, fa, W0, W1, W2, N, B, N1, B1, N2, B2, K, S, M, E, Z, hXI, hMI⟩ := hI
  refine lv_aload_n hx hb dL_law_1207 rfl (lv_at hl 2 rfl) ?_
  refine lv_aload_n hx hb dL_law_1208 rfl (lv_at hl 3 rfl) ?_
  refine lv_iload_n hx hb dL_law_1209 rfl (lv_at hl 0 rfl) ?_
  refine lv_iconst (v := 1) hx hb dL_law_1210 (by decide) ?_
  refine lv_iadd hx hb dL_law_1211 ?_
  refine lv_cg (y := nI (5 * k + 1)) (by rw [show (1 : Int32) = nI 1 from rfl]; exact nI_add _ _) ?_
  refine va_sld hx hb hX hbl hbA hS (vp_in_nI (by omega) (by omega)) dL_law_1212 ?_
  refine lv_cg (y := xs (5 * k + 1)) (by rw [nI_clamp (by omega)]) ?_
  refine lv_aload_n hx hb dL_law_1213 rfl (lv_at hl 3 rfl) ?_
  refine lv_iload_n hx hb dL_law_1214 rfl (lv_at hl 0 rfl) ?_
  refine lv_iconst (v := 2) hx hb dL_law_1215 (by decide) ?_
  refine lv_iadd hx hb dL_law_1216 ?_
  refine lv_cg (y := nI (5 * k + 2)) (by rw [show (2 : Int32) = nI 2 from rfl]; exact nI_add _ _) ?_
  refine va_sld hx hb hX hbl hbA hS (vp_in_nI (by omega) (by omega)) dL_law_1217 ?_
  refine lv_cg (y := xs (5 * k + 2)) (by rw [nI_clamp (by omega)]) ?_
  refine lv_aload_n hx hb dL_law_1218 rfl (lv_at hl 3 rfl) ?_
  refine lv_iload_n hx hb dL_law_1219 rfl (lv_at hl 0 rfl) ?_
  refine lv_iconst (v := 3) hx hb dL_law_1220 (by decide) ?_
  refine lv_iadd hx hb dL_law_1221 ?_
  refine lv_cg (y := nI (5 * k + 3)) (by rw [show (3 : Int32) = nI 3 from rfl]; exact nI_add _ _) ?_
  refine va_sld hx hb hX hbl hbA hS (vp_in_nI (by omega) (by omega)) dL_law_1222 ?_
  refine lv_cg (y := xs (5 * k + 3)) (by rw [nI_clamp (by omega)]) ?_
  refine va_calli (va_runV (As := [.int (xs (5 * k + 1)), .int (xs (5 * k + 2)), .int (xs (5 * k + 3))]) (rest := []) ⟨hx, hb, hml, hown, hg⟩ (k_X10_sheet l dC dI G _ ax hi T Y fa W0 W1 W2 N B N1 B1 N2 B2 K S M E Z (xs (5 * k + 1)) (xs (5 * k + 2)) (xs (5 * k + 3))) (kwV hg mfX10_sheet wt_819 ⟨Nat.le_of_ble_eq_true rfl, Nat.le_of_ble_eq_true rfl⟩) (preVI hK hXI (hXI.recv hK)) rfl rfl hl.1 rfl (lv_room (Nat.le_of_ble_eq_true rfl)) dL_law_1223 ⟨Nat.le_of_ble_eq_true rfl, Nat.le_of_ble_eq_true rfl⟩) hS (fun q _ h => ad_A hAx hA (by decide) hS q h) (ad_A hAx hA (by decide) hS) (fun r1 u1 t1 H1 locs1 ht1 hv1 w1 hB1 hz1 hk1 hS => ?_)
  have hMI := hMI.kept (fr_ad (lo := 0) (hi := 112) hi (by decide) (by decide) (by decide) hk1)
  have hXI : X10I dC dI G ax T Y fa W0 W1 W2 N B N1 B1 N2 B2 K S M (if ((0 ≤ (xs (5 * k + 1)).toInt ∧ (xs (5 * k + 1)).toInt < 4) ∧ (0 ≤ (xs (5 * k + 2)).toInt ∧ (xs (5 * k + 2)).toInt ≤ 2) ∧ (xs (5 * k + 3)).toInt ≤ 40 ∧ 0 ≤ (xs (5 * k + 3)).toInt) then upd E (xs (5 * k + 1)).toNatClampNeg (xs (5 * k + 2)) else E) (if ((0 ≤ (xs (5 * k + 1)).toInt ∧ (xs (5 * k + 1)).toInt < 4) ∧ (0 ≤ (xs (5 * k + 2)).toInt ∧ (xs (5 * k + 2)).toInt ≤ 2) ∧ (xs (5 * k + 3)).toInt ≤ 40 ∧ 0 ≤ (xs (5 * k + 3)).toInt) then upd Z (xs (5 * k + 1)).toNatClampNeg (xs (5 * k + 3)) else Z) H1 := by rw [← ht1]; exact hB1
  refine W.widen (k := 129) (n := 4562) (by omega) (by omega) ?_
  refine lv_pop hx hb dL_law_1226 rfl ?_
  refine lv_aload_n hx hb dL_law_1227 rfl (lv_at hl 1 rfl) ?_
  refine lv_aload_n hx hb dL_law_1228 rfl (lv_at hl 3 rfl) ?_
  refine lv_iload_n hx hb dL_law_1229 rfl (lv_at hl 0 rfl) ?_
  refine lv_iconst (v := 1) hx hb dL_law_1230 (by decide) ?_
  refine lv_iadd hx hb dL_law_1231 ?_
  refine lv_cg (y := nI (5 * k + 1)) (by rw [show (1 : Int32) = nI 1 from rfl]; exact nI_add _ _) ?_
  refine va_sld hx hb hX hbl hbA hS (vp_in_nI (by omega) (by omega)) dL_law_1232 ?_
  refine lv_cg (y := xs (5 * k + 1)) (by rw [nI_clamp (by omega)]) ?_
  refine lv_aload_n hx hb dL_law_1233 rfl (lv_at hl 3 rfl) ?_
  refine lv_iload_n hx hb dL_law_1234 rfl (lv_at hl 0 rfl) ?_
  refine lv_iconst (v := 2) hx hb dL_law_1235 (by decide) ?_
  refine lv_iadd hx hb dL_law_1236 ?_
  refine lv_cg (y := nI (5 * k + 2)) (by rw [show (2 : Int32) = nI 2 from rfl]; exact nI_add _ _) ?_
  refine va_sld hx hb hX hbl hbA hS (vp_in_nI (by omega) (by omega)) dL_law_1237 ?_
  refine lv_cg (y := xs (5 * k + 2)) (by rw [nI_clamp (by omega)]) ?_
  refine lv_aload_n hx hb dL_law_1238 rfl (lv_at hl 3 rfl) ?_
  refine lv_iload_n hx hb dL_law_1239 rfl (lv_at hl 0 rfl) ?_
  refine lv_iconst (v := 3) hx hb dL_law_1240 (by decide) ?_
  refine lv_iadd hx hb dL_law_1241 ?_
  refine lv_cg (y := nI (5 * k + 3)) (by rw [show (3 : Int32) = nI 3 from rfl]; exact nI_add _ _) ?_
  refine va_sld hx hb hX hbl hbA hS (vp_in_nI (by omega) (by omega)) dL_law_1242 ?_
  refine lv_cg (y := xs (5 * k + 3)) (by rw [nI_clamp (by omega)]) ?_
  refine va_calli (va_runV (As := [.int (xs (5 * k + 1)), .int (xs (5 * k + 2)), .int (xs (5 * k + 3))]) (rest := []) ⟨hx, hb, hml, hown, hg⟩ (k_X11_sheet l dC dI G _ ax hi T Y fa W0 W1 W2 N B N1 B1 N2 B2 K S M E Z (xs (5 * k + 1)) (xs (5 * k + 2)) (xs (5 * k + 3))) (kwV hg mfX11_sheet wt_1256 ⟨Nat.le_of_ble_eq_true rfl, Nat.le_of_ble_eq_true rfl⟩) (preVI hK hMI (hMI.recv hK)) rfl rfl hl.1 rfl (lv_room (Nat.le_of_ble_eq_true rfl)) dL_law_1243 ⟨Nat.le_of_ble_eq_true rfl, Nat.le_of_ble_eq_true rfl⟩) hS (fun q _ h => ad_A hAx hA (by decide) hS q h) (ad_A hAx hA (by decide) hS) (fun r2 u2 t2 H2 locs2 ht2 hv2 w2 hB2 hz2 hk2 hS => ?_)
  have hXI := hXI.kept (fr_ad (lo := 112) (hi := 129) hi (by decide) (by decide) (by decide) hk2)
  have hMI : X11I dC dI G ax T Y fa W0 W1 W2 N B N1 B1 N2 B2 K S M (if ((0 ≤ (xs (5 * k + 1)).toInt ∧ (xs (5 * k + 1)).toInt < 4) ∧ (0 ≤ (xs (5 * k + 2)).toInt ∧ (xs (5 * k + 2)).toInt ≤ 2) ∧ (xs (5 * k + 3)).toInt ≤ 40 ∧ 0 ≤ (xs (5 * k + 3)).toInt) then upd E (xs (5 * k + 1)).toNatClampNeg (xs (5 * k + 2)) else E) (if ((0 ≤ (xs (5 * k + 1)).toInt ∧ (xs (5 * k + 1)).toInt < 4) ∧ (0 ≤ (xs (5 * k + 2)).toInt ∧ (xs (5 * k + 2)).toInt ≤ 2) ∧ (xs (5 * k + 3)).toInt ≤ 40 ∧ 0 ≤ (xs (5 * k + 3)).toInt) then upd Z (xs (5 * k + 1)).toNatClampNeg (xs (5 * k + 3)) else Z) H2 := by rw [← ht2]; exact hB2
  refine W.widen (k := 129) (n := 4562) (by omega) (by omega) ?_
  refine lv_pop hx hb dL_law_1246 rfl ?_
  refine lv_goto (tgt := 1382) hx hb dL_law_1247 (by decide) ?_
  exact kk _ _ ⟨_, _, _, _, _, _, _, _, _, _, _, _, _, _, _, _, _, hXI, hMI⟩ hS

set_option maxHeartbeats 1000000 in
set_option maxRecDepth 100000 in
theorem lc_lay {p : Program} {l : Launch} {e : Env} {s : State} {m : MethodId} {below : List Frame} {meth : Method} {c : Code} {b L : Nat} {xs : Nat → Int32} {dC : Nat → ClassId} {dI : Nat → Nat → Nat} {G : Nat → ClassId} {ax adK adV : Nat → Nat} {A : Nat → Prop} {Q : State → Prop} (C1 : lw_C p s m c b L xs dC dI G ax adK adV A) {k : Nat} (hk : 5 * k + 5 ≤ L) (hL : L ≤ 2560) {H : Heap} {locs : List Loc} {ls : Array Slot} (hI : LI dC dI G ax H) (hS : va_S A s.heap H locs) (hl : lv_has ls 4 [(3, .int (nI (5 * k))), (2, .ref (ax 112)), (1, .ref (ax 0)), (0, .ref b)]) (kk : ∀ (H : Heap) (locs : List Loc), LI dC dI G ax H → va_S A s.heap H locs → W p l e room_1 s m #[Value.ref b] below meth c H locs 129 4562 Q (F0 m 1382 ls [])) : W p l e room_1 s m #[Value.ref b] below meth c H locs 129 4562 Q (F0 m 1250 ls []) := by
  obtain ⟨hx, hb, hml, hown, hg, hX, hbl, hbA, hK, hi, hAx, hA, hSS⟩ := C1
  obtain ⟨T, Y, fa, W0, W1, W2, N, B, N1, B1, N2, B2, K, S, M, E, Z, hXI, hMI⟩ := hI
  refine lv_aload_n hx hb dL_law_1250 rfl (lv_at hl 2 rfl) ?_
  refine lv_aload_n hx hb dL_law_1251 rfl (lv_at hl 3 rfl) ?_
  refine lv_iload_n hx hb dL_law_1252 rfl (lv_at hl 0 rfl) ?_
  refine lv_iconst (v := 1) hx hb dL_law_1253 (by decide) ?_
  refine lv_iadd hx hb dL_law_1254 ?_
  refine lv_cg (y := nI (5 * k + 1)) (by rw [show (1 : Int32) = nI 1 from rfl]; exact nI_add _ _) ?_
  refine va_sld hx hb hX hbl hbA hS (vp_in_nI (by omega) (by omega)) dL_law_1255 ?_
  refine lv_cg (y := xs (5 * k + 1)) (by rw [nI_clamp (by omega)]) ?_
  refine lv_aload_n hx hb dL_law_1256 rfl (lv_at hl 3 rfl) ?_
  refine lv_iload_n hx hb dL_law_1257 rfl (lv_at hl 0 rfl) ?_
  refine lv_iconst (v := 2) hx hb dL_law_1258 (by decide) ?_
  refine lv_iadd hx hb dL_law_1259 ?_
  refine lv_cg (y := nI (5 * k + 2)) (by rw [show (2 : Int32) = nI 2 from rfl]; exact nI_add _ _) ?_
  refine va_sld hx hb hX hbl hbA hS (vp_in_nI (by omega) (by omega)) dL_law_1260 ?_
  refine lv_cg (y := xs (5 * k + 2)) (by rw [nI_clamp (by omega)]) ?_
  refine lv_aload_n hx hb dL_law_1261 rfl (lv_at hl 3 rfl) ?_
  refine lv_iload_n hx hb dL_law_1262 rfl (lv_at hl 0 rfl) ?_
  refine lv_iconst (v := 3) hx hb dL_law_1263 (by decide) ?_
  refine lv_iadd hx hb dL_law_1264 ?_
  refine lv_cg (y := nI (5 * k + 3)) (by rw [show (3 : Int32) = nI 3 from rfl]; exact nI_add _ _) ?_
  refine va_sld hx hb hX hbl hbA hS (vp_in_nI (by omega) (by omega)) dL_law_1265 ?_
  refine lv_cg (y := xs (5 * k + 3)) (by rw [nI_clamp (by omega)]) ?_
  refine va_calli (va_runV (As := [.int (xs (5 * k + 1)), .int (xs (5 * k + 2)), .int (xs (5 * k + 3))]) (rest := []) ⟨hx, hb, hml, hown, hg⟩ (k_X10_lay l dC dI G _ ax hi T Y fa W0 W1 W2 N B N1 B1 N2 B2 K S M E Z (xs (5 * k + 1)) (xs (5 * k + 2)) (xs (5 * k + 3))) (kwV hg mfX10_lay wt_834 ⟨Nat.le_of_ble_eq_true rfl, Nat.le_of_ble_eq_true rfl⟩) (preVI hK hXI (hXI.recv hK)) rfl rfl hl.1 rfl (lv_room (Nat.le_of_ble_eq_true rfl)) dL_law_1266 ⟨Nat.le_of_ble_eq_true rfl, Nat.le_of_ble_eq_true rfl⟩) hS (fun q _ h => ad_A hAx hA (by decide) hS q h) (ad_A hAx hA (by decide) hS) (fun r1 u1 t1 H1 locs1 ht1 hv1 w1 hB1 hz1 hk1 hS => ?_)
  have hMI := hMI.kept (fr_ad (lo := 0) (hi := 112) hi (by decide) (by decide) (by decide) hk1)
  have hXI : X10I dC dI G ax T Y fa W0 W1 W2 N B N1 B1 N2 B2 K S M E Z H1 := by rw [← ht1]; exact hB1
  refine W.widen (k := 129) (n := 4562) (by omega) (by omega) ?_
  refine lv_pop hx hb dL_law_1269 rfl ?_
  refine lv_aload_n hx hb dL_law_1270 rfl (lv_at hl 1 rfl) ?_
  refine lv_aload_n hx hb dL_law_1271 rfl (lv_at hl 3 rfl) ?_
  refine lv_iload_n hx hb dL_law_1272 rfl (lv_at hl 0 rfl) ?_
  refine lv_iconst (v := 1) hx hb dL_law_1273 (by decide) ?_
  refine lv_iadd hx hb dL_law_1274 ?_
  refine lv_cg (y := nI (5 * k + 1)) (by rw [show (1 : Int32) = nI 1 from rfl]; exact nI_add _ _) ?_
  refine va_sld hx hb hX hbl hbA hS (vp_in_nI (by omega) (by omega)) dL_law_1275 ?_
  refine lv_cg (y := xs (5 * k + 1)) (by rw [nI_clamp (by omega)]) ?_
  refine lv_aload_n hx hb dL_law_1276 rfl (lv_at hl 3 rfl) ?_
  refine lv_iload_n hx hb dL_law_1277 rfl (lv_at hl 0 rfl) ?_
  refine lv_iconst (v := 2) hx hb dL_law_1278 (by decide) ?_
  refine lv_iadd hx hb dL_law_1279 ?_
  refine lv_cg (y := nI (5 * k + 2)) (by rw [show (2 : Int32) = nI 2 from rfl]; exact nI_add _ _) ?_
  refine va_sld hx hb hX hbl hbA hS (vp_in_nI (by omega) (by omega)) dL_law_1280 ?_
  refine lv_cg (y := xs (5 * k + 2)) (by rw [nI_clamp (by omega)]) ?_
  refine lv_aload_n hx hb dL_law_1281 rfl (lv_at hl 3 rfl) ?_
  refine lv_iload_n hx hb dL_law_1282 rfl (lv_at hl 0 rfl) ?_
  refine lv_iconst (v := 3) hx hb dL_law_1283 (by decide) ?_
  refine lv_iadd hx hb dL_law_1284 ?_
  refine lv_cg (y := nI (5 * k + 3)) (by rw [show (3 : Int32) = nI 3 from rfl]; exact nI_add _ _) ?_
  refine va_sld hx hb hX hbl hbA hS (vp_in_nI (by omega) (by omega)) dL_law_1285 ?_
  refine lv_cg (y := xs (5 * k + 3)) (by rw [nI_clamp (by omega)]) ?_
  refine va_calli (va_runV (As := [.int (xs (5 * k + 1)), .int (xs (5 * k + 2)), .int (xs (5 * k + 3))]) (rest := []) ⟨hx, hb, hml, hown, hg⟩ (k_X11_lay l dC dI G _ ax hi T Y fa W0 W1 W2 N B N1 B1 N2 B2 K S M E Z (xs (5 * k + 1)) (xs (5 * k + 2)) (xs (5 * k + 3))) (kwV hg mfX11_lay wt_1260 ⟨Nat.le_of_ble_eq_true rfl, Nat.le_of_ble_eq_true rfl⟩) (preVI hK hMI (hMI.recv hK)) rfl rfl hl.1 rfl (lv_room (Nat.le_of_ble_eq_true rfl)) dL_law_1286 ⟨Nat.le_of_ble_eq_true rfl, Nat.le_of_ble_eq_true rfl⟩) hS (fun q _ h => ad_A hAx hA (by decide) hS q h) (ad_A hAx hA (by decide) hS) (fun r2 u2 t2 H2 locs2 ht2 hv2 w2 hB2 hz2 hk2 hS => ?_)
  have hXI := hXI.kept (fr_ad (lo := 112) (hi := 129) hi (by decide) (by decide) (by decide) hk2)
  have hMI : X11I dC dI G ax T Y fa W0 W1 W2 N B N1 B1 N2 B2 K S M E Z H2 := by rw [← ht2]; exact hB2
  refine W.widen (k := 129) (n := 4562) (by omega) (by omega) ?_
  refine lv_pop hx hb dL_law_1289 rfl ?_
  refine lv_goto (tgt := 1382) hx hb dL_law_1290 (by decide) ?_
  exact kk _ _ ⟨_, _, _, _, _, _, _, _, _, _, _, _, _, _, _, _, _, hXI, hMI⟩ hS

set_option maxHeartbeats 1000000 in
set_option maxRecDepth 100000 in
theorem lc_read {p : Program} {l : Launch} {e : Env} {s : State} {m : MethodId} {below : List Frame} {meth : Method} {c : Code} {b L : Nat} {xs : Nat → Int32} {dC : Nat → ClassId} {dI : Nat → Nat → Nat} {G : Nat → ClassId} {ax adK adV : Nat → Nat} {A : Nat → Prop} {Q : State → Prop} (C1 : lw_C p s m c b L xs dC dI G ax adK adV A) {k : Nat} (hk : 5 * k + 5 ≤ L) (hL : L ≤ 2560) {H : Heap} {locs : List Loc} {ls : Array Slot} (hI : LI dC dI G ax H) (hS : va_S A s.heap H locs) (hl : lv_has ls 4 [(3, .int (nI (5 * k))), (2, .ref (ax 112)), (1, .ref (ax 0)), (0, .ref b)]) (kk : ∀ (H : Heap) (locs : List Loc), LI dC dI G ax H → va_S A s.heap H locs → W p l e room_1 s m #[Value.ref b] below meth c H locs 129 4562 Q (F0 m 1382 ls [])) : W p l e room_1 s m #[Value.ref b] below meth c H locs 129 4562 Q (F0 m 1293 ls []) := by
  obtain ⟨hx, hb, hml, hown, hg, hX, hbl, hbA, hK, hi, hAx, hA, hSS⟩ := C1
  obtain ⟨T, Y, fa, W0, W1, W2, N, B, N1, B1, N2, B2, K, S, M, E, Z, hXI, hMI⟩ := hI
  refine lv_aload_n hx hb dL_law_1293 rfl (lv_at hl 2 rfl) ?_
  refine lv_aload_n hx hb dL_law_1294 rfl (lv_at hl 3 rfl) ?_
  refine lv_iload_n hx hb dL_law_1295 rfl (lv_at hl 0 rfl) ?_
  refine lv_iconst (v := 1) hx hb dL_law_1296 (by decide) ?_
  refine lv_iadd hx hb dL_law_1297 ?_
  refine lv_cg (y := nI (5 * k + 1)) (by rw [show (1 : Int32) = nI 1 from rfl]; exact nI_add _ _) ?_
  refine va_sld hx hb hX hbl hbA hS (vp_in_nI (by omega) (by omega)) dL_law_1298 ?_
  refine lv_cg (y := xs (5 * k + 1)) (by rw [nI_clamp (by omega)]) ?_
  refine lv_aload_n hx hb dL_law_1299 rfl (lv_at hl 3 rfl) ?_
  refine lv_iload_n hx hb dL_law_1300 rfl (lv_at hl 0 rfl) ?_
  refine lv_iconst (v := 2) hx hb dL_law_1301 (by decide) ?_
  refine lv_iadd hx hb dL_law_1302 ?_
  refine lv_cg (y := nI (5 * k + 2)) (by rw [show (2 : Int32) = nI 2 from rfl]; exact nI_add _ _) ?_
  refine va_sld hx hb hX hbl hbA hS (vp_in_nI (by omega) (by omega)) dL_law_1303 ?_
  refine lv_cg (y := xs (5 * k + 2)) (by rw [nI_clamp (by omega)]) ?_
  refine lv_aload_n hx hb dL_law_1304 rfl (lv_at hl 3 rfl) ?_
  refine lv_iload_n hx hb dL_law_1305 rfl (lv_at hl 0 rfl) ?_
  refine lv_iconst (v := 3) hx hb dL_law_1306 (by decide) ?_
  refine lv_iadd hx hb dL_law_1307 ?_
  refine lv_cg (y := nI (5 * k + 3)) (by rw [show (3 : Int32) = nI 3 from rfl]; exact nI_add _ _) ?_
  refine va_sld hx hb hX hbl hbA hS (vp_in_nI (by omega) (by omega)) dL_law_1308 ?_
  refine lv_cg (y := xs (5 * k + 3)) (by rw [nI_clamp (by omega)]) ?_
  refine lv_aload_n hx hb dL_law_1309 rfl (lv_at hl 3 rfl) ?_
  refine lv_iload_n hx hb dL_law_1310 rfl (lv_at hl 0 rfl) ?_
  refine lv_iconst (v := 4) hx hb dL_law_1311 (by decide) ?_
  refine lv_iadd hx hb dL_law_1312 ?_
  refine lv_cg (y := nI (5 * k + 4)) (by rw [show (4 : Int32) = nI 4 from rfl]; exact nI_add _ _) ?_
  refine va_sld hx hb hX hbl hbA hS (vp_in_nI (by omega) (by omega)) dL_law_1313 ?_
  refine lv_cg (y := xs (5 * k + 4)) (by rw [nI_clamp (by omega)]) ?_
  refine va_calli (va_runV (As := [.int (xs (5 * k + 1)), .int (xs (5 * k + 2)), .int (xs (5 * k + 3)), .int (xs (5 * k + 4))]) (rest := []) ⟨hx, hb, hml, hown, hg⟩ (k_X10_read l dC dI G _ ax hi T Y fa W0 W1 W2 N B N1 B1 N2 B2 K S M E Z (xs (5 * k + 1)) (xs (5 * k + 2)) (xs (5 * k + 3)) (xs (5 * k + 4))) (kwV hg mfX10_read wt_847 ⟨Nat.le_of_ble_eq_true rfl, Nat.le_of_ble_eq_true rfl⟩) (preVI hK hXI (hXI.recv hK)) rfl rfl hl.1 rfl (lv_room (Nat.le_of_ble_eq_true rfl)) dL_law_1314 ⟨Nat.le_of_ble_eq_true rfl, Nat.le_of_ble_eq_true rfl⟩) hS (fun q _ h => ad_A hAx hA (by decide) hS q h) (ad_A hAx hA (by decide) hS) (fun r1 u1 t1 H1 locs1 ht1 hv1 w1 hB1 hz1 hk1 hS => ?_)
  have hMI := hMI.kept (fr_ad (lo := 0) (hi := 112) hi (by decide) (by decide) (by decide) hk1)
  have hXI : X10I dC dI G ax T Y fa W0 W1 W2 N B N1 B1 N2 B2 K S M E Z H1 := by rw [← ht1]; exact hB1
  refine W.widen (k := 129) (n := 4562) (by omega) (by omega) ?_
  refine lv_pop hx hb dL_law_1317 rfl ?_
  refine lv_aload_n hx hb dL_law_1318 rfl (lv_at hl 1 rfl) ?_
  refine lv_aload_n hx hb dL_law_1319 rfl (lv_at hl 3 rfl) ?_
  refine lv_iload_n hx hb dL_law_1320 rfl (lv_at hl 0 rfl) ?_
  refine lv_iconst (v := 1) hx hb dL_law_1321 (by decide) ?_
  refine lv_iadd hx hb dL_law_1322 ?_
  refine lv_cg (y := nI (5 * k + 1)) (by rw [show (1 : Int32) = nI 1 from rfl]; exact nI_add _ _) ?_
  refine va_sld hx hb hX hbl hbA hS (vp_in_nI (by omega) (by omega)) dL_law_1323 ?_
  refine lv_cg (y := xs (5 * k + 1)) (by rw [nI_clamp (by omega)]) ?_
  refine lv_aload_n hx hb dL_law_1324 rfl (lv_at hl 3 rfl) ?_
  refine lv_iload_n hx hb dL_law_1325 rfl (lv_at hl 0 rfl) ?_
  refine lv_iconst (v := 2) hx hb dL_law_1326 (by decide) ?_
  refine lv_iadd hx hb dL_law_1327 ?_
  refine lv_cg (y := nI (5 * k + 2)) (by rw [show (2 : Int32) = nI 2 from rfl]; exact nI_add _ _) ?_
  refine va_sld hx hb hX hbl hbA hS (vp_in_nI (by omega) (by omega)) dL_law_1328 ?_
  refine lv_cg (y := xs (5 * k + 2)) (by rw [nI_clamp (by omega)]) ?_
  refine lv_aload_n hx hb dL_law_1329 rfl (lv_at hl 3 rfl) ?_
  refine lv_iload_n hx hb dL_law_1330 rfl (lv_at hl 0 rfl) ?_
  refine lv_iconst (v := 3) hx hb dL_law_1331 (by decide) ?_
  refine lv_iadd hx hb dL_law_1332 ?_
  refine lv_cg (y := nI (5 * k + 3)) (by rw [show (3 : Int32) = nI 3 from rfl]; exact nI_add _ _) ?_
  refine va_sld hx hb hX hbl hbA hS (vp_in_nI (by omega) (by omega)) dL_law_1333 ?_
  refine lv_cg (y := xs (5 * k + 3)) (by rw [nI_clamp (by omega)]) ?_
  refine lv_aload_n hx hb dL_law_1334 rfl (lv_at hl 3 rfl) ?_
  refine lv_iload_n hx hb dL_law_1335 rfl (lv_at hl 0 rfl) ?_
  refine lv_iconst (v := 4) hx hb dL_law_1336 (by decide) ?_
  refine lv_iadd hx hb dL_law_1337 ?_
  refine lv_cg (y := nI (5 * k + 4)) (by rw [show (4 : Int32) = nI 4 from rfl]; exact nI_add _ _) ?_
  refine va_sld hx hb hX hbl hbA hS (vp_in_nI (by omega) (by omega)) dL_law_1338 ?_
  refine lv_cg (y := xs (5 * k + 4)) (by rw [nI_clamp (by omega)]) ?_
  refine va_calli (va_runV (As := [.int (xs (5 * k + 1)), .int (xs (5 * k + 2)), .int (xs (5 * k + 3)), .int (xs (5 * k + 4))]) (rest := []) ⟨hx, hb, hml, hown, hg⟩ (k_X11_readW l dC dI G _ ax hi T Y fa W0 W1 W2 N B N1 B1 N2 B2 K S M E Z (xs (5 * k + 1)) (xs (5 * k + 2)) (xs (5 * k + 3)) (xs (5 * k + 4))) (kwV hg mfX11_read wt_1264 ⟨Nat.le_of_ble_eq_true rfl, Nat.le_of_ble_eq_true rfl⟩) (preVI hK hMI (hMI.recv hK)) rfl rfl hl.1 rfl (lv_room (Nat.le_of_ble_eq_true rfl)) dL_law_1339 ⟨Nat.le_of_ble_eq_true rfl, Nat.le_of_ble_eq_true rfl⟩) hS (fun q _ h => ad_A hAx hA (by decide) hS q h) (ad_A hAx hA (by decide) hS) (fun r2 u2 t2 H2 locs2 ht2 hv2 w2 hB2 hz2 hk2 hS => ?_)
  have hXI := hXI.kept (fr_ad (lo := 112) (hi := 129) hi (by decide) (by decide) (by decide) hk2)
  have hMI : X11I dC dI G ax T Y fa W0 W1 W2 N B N1 B1 N2 B2 K S M E Z H2 := by rw [← ht2]; exact hB2
  refine W.widen (k := 129) (n := 4562) (by omega) (by omega) ?_
  refine lv_pop hx hb dL_law_1342 rfl ?_
  refine lv_goto (tgt := 1382) hx hb dL_law_1343 (by decide) ?_
  exact kk _ _ ⟨_, _, _, _, _, _, _, _, _, _, _, _, _, _, _, _, _, hXI, hMI⟩ hS

set_option maxHeartbeats 1000000 in
set_option maxRecDepth 100000 in
theorem lc_torn {p : Program} {l : Launch} {e : Env} {s : State} {m : MethodId} {below : List Frame} {meth : Method} {c : Code} {b L : Nat} {xs : Nat → Int32} {dC : Nat → ClassId} {dI : Nat → Nat → Nat} {G : Nat → ClassId} {ax adK adV : Nat → Nat} {A : Nat → Prop} {Q : State → Prop} (C1 : lw_C p s m c b L xs dC dI G ax adK adV A) {k : Nat} (hk : 5 * k + 5 ≤ L) (hL : L ≤ 2560) {H : Heap} {locs : List Loc} {ls : Array Slot} (hI : LI dC dI G ax H) (hS : va_S A s.heap H locs) (hl : lv_has ls 4 [(3, .int (nI (5 * k))), (2, .ref (ax 112)), (1, .ref (ax 0)), (0, .ref b)]) (kk : ∀ (H : Heap) (locs : List Loc), LI dC dI G ax H → va_S A s.heap H locs → W p l e room_1 s m #[Value.ref b] below meth c H locs 129 4562 Q (F0 m 1382 ls [])) : W p l e room_1 s m #[Value.ref b] below meth c H locs 129 4562 Q (F0 m 1346 ls []) := by
  obtain ⟨hx, hb, hml, hown, hg, hX, hbl, hbA, hK, hi, hAx, hA, hSS⟩ := C1
  obtain ⟨T, Y, fa, W0, W1, W2, N, B, N1, B1, N2, B2, K, S, M, E, Z, hXI, hMI⟩ := hI
  refine lv_aload_n hx hb dL_law_1346 rfl (lv_at hl 2 rfl) ?_
  refine va_calli (va_runV (As := []) (rest := []) ⟨hx, hb, hml, hown, hg⟩ (k_X10_torn l dC dI G _ ax hi T Y fa W0 W1 W2 N B N1 B1 N2 B2 K S M E Z) (kwV hg mfX10_torn wt_856 ⟨Nat.le_of_ble_eq_true rfl, Nat.le_of_ble_eq_true rfl⟩) (preVI hK hXI (hXI.recv hK)) rfl rfl hl.1 rfl (lv_room (Nat.le_of_ble_eq_true rfl)) dL_law_1347 ⟨Nat.le_of_ble_eq_true rfl, Nat.le_of_ble_eq_true rfl⟩) hS (fun q _ h => ad_A hAx hA (by decide) hS q h) (ad_A hAx hA (by decide) hS) (fun r1 u1 t1 H1 locs1 ht1 hv1 w1 hB1 hz1 hk1 hS => ?_)
  have hMI := hMI.kept (fr_ad (lo := 0) (hi := 112) hi (by decide) (by decide) (by decide) hk1)
  have hXI : X10I dC dI G ax T Y fa W0 W1 W2 N B N1 B1 N2 B2 K S M E Z H1 := by rw [← ht1]; exact hB1
  refine W.widen (k := 129) (n := 4562) (by omega) (by omega) ?_
  refine lv_pop hx hb dL_law_1350 rfl ?_
  refine lv_aload_n hx hb dL_law_1351 rfl (lv_at hl 1 rfl) ?_
  refine va_calli (va_runV (As := []) (rest := []) ⟨hx, hb, hml, hown, hg⟩ (k_X11_torn l dC dI G _ ax hi T Y fa W0 W1 W2 N B N1 B1 N2 B2 K S M E Z) (kwV hg mfX11_torn wt_1268 ⟨Nat.le_of_ble_eq_true rfl, Nat.le_of_ble_eq_true rfl⟩) (preVI hK hMI (hMI.recv hK)) rfl rfl hl.1 rfl (lv_room (Nat.le_of_ble_eq_true rfl)) dL_law_1352 ⟨Nat.le_of_ble_eq_true rfl, Nat.le_of_ble_eq_true rfl⟩) hS (fun q _ h => ad_A hAx hA (by decide) hS q h) (ad_A hAx hA (by decide) hS) (fun r2 u2 t2 H2 locs2 ht2 hv2 w2 hB2 hz2 hk2 hS => ?_)
  have hXI := hXI.kept (fr_ad (lo := 112) (hi := 129) hi (by decide) (by decide) (by decide) hk2)
  have hMI : X11I dC dI G ax T Y fa W0 W1 W2 N B N1 B1 N2 B2 K S M E Z H2 := by rw [← ht2]; exact hB2
  refine W.widen (k := 129) (n := 4562) (by omega) (by omega) ?_
  refine lv_pop hx hb dL_law_1355 rfl ?_
  refine lv_goto (tgt := 1382) hx hb dL_law_1356 (by decide) ?_
  exact kk _ _ ⟨_, _, _, _, _, _, _, _, _, _, _, _, _, _, _, _, _, hXI, hMI⟩ hS

set_option maxHeartbeats 1000000 in
set_option maxRecDepth 100000 in
theorem lc_count {p : Program} {l : Launch} {e : Env} {s : State} {m : MethodId} {below : List Frame} {meth : Method} {c : Code} {b L : Nat} {xs : Nat → Int32} {dC : Nat → ClassId} {dI : Nat → Nat → Nat} {G : Nat → ClassId} {ax adK adV : Nat → Nat} {A : Nat → Prop} {Q : State → Prop} (C1 : lw_C p s m c b L xs dC dI G ax adK adV A) {k : Nat} (hk : 5 * k + 5 ≤ L) (hL : L ≤ 2560) {H : Heap} {locs : List Loc} {ls : Array Slot} (hI : LI dC dI G ax H) (hS : va_S A s.heap H locs) (hl : lv_has ls 4 [(3, .int (nI (5 * k))), (2, .ref (ax 112)), (1, .ref (ax 0)), (0, .ref b)]) (kk : ∀ (H : Heap) (locs : List Loc), LI dC dI G ax H → va_S A s.heap H locs → W p l e room_1 s m #[Value.ref b] below meth c H locs 129 4562 Q (F0 m 1382 ls [])) : W p l e room_1 s m #[Value.ref b] below meth c H locs 129 4562 Q (F0 m 1359 ls []) := by
  obtain ⟨hx, hb, hml, hown, hg, hX, hbl, hbA, hK, hi, hAx, hA, hSS⟩ := C1
  obtain ⟨T, Y, fa, W0, W1, W2, N, B, N1, B1, N2, B2, K, S, M, E, Z, hXI, hMI⟩ := hI
  refine lv_aload_n hx hb dL_law_1359 rfl (lv_at hl 2 rfl) ?_
  refine lv_aload_n hx hb dL_law_1360 rfl (lv_at hl 3 rfl) ?_
  refine lv_iload_n hx hb dL_law_1361 rfl (lv_at hl 0 rfl) ?_
  refine lv_iconst (v := 1) hx hb dL_law_1362 (by decide) ?_
  refine lv_iadd hx hb dL_law_1363 ?_
  refine lv_cg (y := nI (5 * k + 1)) (by rw [show (1 : Int32) = nI 1 from rfl]; exact nI_add _ _) ?_
  refine va_sld hx hb hX hbl hbA hS (vp_in_nI (by omega) (by omega)) dL_law_1364 ?_
  refine lv_cg (y := xs (5 * k + 1)) (by rw [nI_clamp (by omega)]) ?_
  refine va_calli (va_runV (As := [.int (xs (5 * k + 1))]) (rest := []) ⟨hx, hb, hml, hown, hg⟩ (k_X10_count l dC dI G _ ax hi T Y fa W0 W1 W2 N B N1 B1 N2 B2 K S M E Z (xs (5 * k + 1))) (kwV hg mfX10_count wt_860 ⟨Nat.le_of_ble_eq_true rfl, Nat.le_of_ble_eq_true rfl⟩) (preVI hK hXI (hXI.recv hK)) rfl rfl hl.1 rfl (lv_room (Nat.le_of_ble_eq_true rfl)) dL_law_1365 ⟨Nat.le_of_ble_eq_true rfl, Nat.le_of_ble_eq_true rfl⟩) hS (fun q _ h => ad_A hAx hA (by decide) hS q h) (ad_A hAx hA (by decide) hS) (fun r1 u1 t1 H1 locs1 ht1 hv1 w1 hB1 hz1 hk1 hS => ?_)
  have hMI := hMI.kept (fr_ad (lo := 0) (hi := 112) hi (by decide) (by decide) (by decide) hk1)
  have hXI : X10I dC dI G ax T Y fa W0 W1 W2 N B N1 B1 N2 B2 K S M E Z H1 := by rw [← ht1]; exact hB1
  refine W.widen (k := 129) (n := 4562) (by omega) (by omega) ?_
  refine lv_pop hx hb dL_law_1368 rfl ?_
  refine lv_aload_n hx hb dL_law_1369 rfl (lv_at hl 1 rfl) ?_
  refine lv_aload_n hx hb dL_law_1370 rfl (lv_at hl 3 rfl) ?_
  refine lv_iload_n hx hb dL_law_1371 rfl (lv_at hl 0 rfl) ?_
  refine lv_iconst (v := 1) hx hb dL_law_1372 (by decide) ?_
  refine lv_iadd hx hb dL_law_1373 ?_
  refine lv_cg (y := nI (5 * k + 1)) (by rw [show (1 : Int32) = nI 1 from rfl]; exact nI_add _ _) ?_
  refine va_sld hx hb hX hbl hbA hS (vp_in_nI (by omega) (by omega)) dL_law_1374 ?_
  refine lv_cg (y := xs (5 * k + 1)) (by rw [nI_clamp (by omega)]) ?_
  refine va_calli (va_runV (As := [.int (xs (5 * k + 1))]) (rest := []) ⟨hx, hb, hml, hown, hg⟩ (k_X11_count l dC dI G _ ax hi T Y fa W0 W1 W2 N B N1 B1 N2 B2 K S M E Z (xs (5 * k + 1))) (kwV hg mfX11_count wt_1272 ⟨Nat.le_of_ble_eq_true rfl, Nat.le_of_ble_eq_true rfl⟩) (preVI hK hMI (hMI.recv hK)) rfl rfl hl.1 rfl (lv_room (Nat.le_of_ble_eq_true rfl)) dL_law_1375 ⟨Nat.le_of_ble_eq_true rfl, Nat.le_of_ble_eq_true rfl⟩) hS (fun q _ h => ad_A hAx hA (by decide) hS q h) (ad_A hAx hA (by decide) hS) (fun r2 u2 t2 H2 locs2 ht2 hv2 w2 hB2 hz2 hk2 hS => ?_)
  have hXI := hXI.kept (fr_ad (lo := 112) (hi := 129) hi (by decide) (by decide) (by decide) hk2)
  have hMI : X11I dC dI G ax T Y fa W0 W1 W2 N B N1 B1 N2 B2 K S M E Z H2 := by rw [← ht2]; exact hB2
  refine W.widen (k := 129) (n := 4562) (by omega) (by omega) ?_
  refine lv_pop hx hb dL_law_1378 rfl ?_
  refine lv_goto (tgt := 1382) hx hb dL_law_1379 (by decide) ?_
  exact kk _ _ ⟨_, _, _, _, _, _, _, _, _, _, _, _, _, _, _, _, _, hXI, hMI⟩ hS

def tmS (i : Nat) : Term := Term.string "AsleepPass$Reader" (strL.getD i (0, "")).1
theorem sL0 {A0 : Array Value} {s : State} (hs : ∀ q ∈ flatC (Jvm.Cond.and given_1 narrow_1), q.before A0 s = true) : (Cond.exactly (tmS 0) "java/lang/String").before A0 s = true ∧ (Cond.eq (.field (tmS 0) "java/lang/String" "coder" "B") (.int 0)).before A0 s = true ∧ (Cond.arrayOf (.field (tmS 0) "java/lang/String" "value" "[B") .byte).before A0 s = true ∧ (Cond.eq (.length (.field (tmS 0) "java/lang/String" "value" "[B")) (.int (Int32.ofNat (strLen.getD 0 0)))).before A0 s = true ∧ ∀ j : Nat, j < strLen.getD 0 0 → (Cond.eq (.elem (.field (tmS 0) "java/lang/String" "value" "[B") (.int (Int32.ofNat j))) (.int ((strByt.getD 0 []).getD j 0))).before A0 s = true := by
  refine ⟨hs _ (by decide +kernel), hs _ (by decide +kernel), hs _ (by decide +kernel), hs _ (by decide +kernel), fun j hj => ?_⟩
  have hj : j < 5 := hj
  rcases (show j = 0 ∨ j = 1 ∨ j = 2 ∨ j = 3 ∨ j = 4 by omega) with h | h | h | h | h
  · subst h; exact hs _ (by decide +kernel)
  · subst h; exact hs _ (by decide +kernel)
  · subst h; exact hs _ (by decide +kernel)
  · subst h; exact hs _ (by decide +kernel)
  · subst h; exact hs _ (by decide +kernel)
theorem sL1 {A0 : Array Value} {s : State} (hs : ∀ q ∈ flatC (Jvm.Cond.and given_1 narrow_1), q.before A0 s = true) : (Cond.exactly (tmS 1) "java/lang/String").before A0 s = true ∧ (Cond.eq (.field (tmS 1) "java/lang/String" "coder" "B") (.int 0)).before A0 s = true ∧ (Cond.arrayOf (.field (tmS 1) "java/lang/String" "value" "[B") .byte).before A0 s = true ∧ (Cond.eq (.length (.field (tmS 1) "java/lang/String" "value" "[B")) (.int (Int32.ofNat (strLen.getD 1 0)))).before A0 s = true ∧ ∀ j : Nat, j < strLen.getD 1 0 → (Cond.eq (.elem (.field (tmS 1) "java/lang/String" "value" "[B") (.int (Int32.ofNat j))) (.int ((strByt.getD 1 []).getD j 0))).before A0 s = true := by
  refine ⟨hs _ (by decide +kernel), hs _ (by decide +kernel), hs _ (by decide +kernel), hs _ (by decide +kernel), fun j hj => ?_⟩
  have hj : j < 7 := hj
  rcases (show j = 0 ∨ j = 1 ∨ j = 2 ∨ j = 3 ∨ j = 4 ∨ j = 5 ∨ j = 6 by omega) with h | h | h | h | h | h | h
  · subst h; exact hs _ (by decide +kernel)
  · subst h; exact hs _ (by decide +kernel)
  · subst h; exact hs _ (by decide +kernel)
  · subst h; exact hs _ (by decide +kernel)
  · subst h; exact hs _ (by decide +kernel)
  · subst h; exact hs _ (by decide +kernel)
  · subst h; exact hs _ (by decide +kernel)
theorem sL2 {A0 : Array Value} {s : State} (hs : ∀ q ∈ flatC (Jvm.Cond.and given_1 narrow_1), q.before A0 s = true) : (Cond.exactly (tmS 2) "java/lang/String").before A0 s = true ∧ (Cond.eq (.field (tmS 2) "java/lang/String" "coder" "B") (.int 0)).before A0 s = true ∧ (Cond.arrayOf (.field (tmS 2) "java/lang/String" "value" "[B") .byte).before A0 s = true ∧ (Cond.eq (.length (.field (tmS 2) "java/lang/String" "value" "[B")) (.int (Int32.ofNat (strLen.getD 2 0)))).before A0 s = true ∧ ∀ j : Nat, j < strLen.getD 2 0 → (Cond.eq (.elem (.field (tmS 2) "java/lang/String" "value" "[B") (.int (Int32.ofNat j))) (.int ((strByt.getD 2 []).getD j 0))).before A0 s = true := by
  refine ⟨hs _ (by decide +kernel), hs _ (by decide +kernel), hs _ (by decide +kernel), hs _ (by decide +kernel), fun j hj => ?_⟩
  have hj : j < 6 := hj
  rcases (show j = 0 ∨ j = 1 ∨ j = 2 ∨ j = 3 ∨ j = 4 ∨ j = 5 by omega) with h | h | h | h | h | h
  · subst h; exact hs _ (by decide +kernel)
  · subst h; exact hs _ (by decide +kernel)
  · subst h; exact hs _ (by decide +kernel)
  · subst h; exact hs _ (by decide +kernel)
  · subst h; exact hs _ (by decide +kernel)
  · subst h; exact hs _ (by decide +kernel)
theorem sL3 {A0 : Array Value} {s : State} (hs : ∀ q ∈ flatC (Jvm.Cond.and given_1 narrow_1), q.before A0 s = true) : (Cond.exactly (tmS 3) "java/lang/String").before A0 s = true ∧ (Cond.eq (.field (tmS 3) "java/lang/String" "coder" "B") (.int 0)).before A0 s = true ∧ (Cond.arrayOf (.field (tmS 3) "java/lang/String" "value" "[B") .byte).before A0 s = true ∧ (Cond.eq (.length (.field (tmS 3) "java/lang/String" "value" "[B")) (.int (Int32.ofNat (strLen.getD 3 0)))).before A0 s = true ∧ ∀ j : Nat, j < strLen.getD 3 0 → (Cond.eq (.elem (.field (tmS 3) "java/lang/String" "value" "[B") (.int (Int32.ofNat j))) (.int ((strByt.getD 3 []).getD j 0))).before A0 s = true := by
  refine ⟨hs _ (by decide +kernel), hs _ (by decide +kernel), hs _ (by decide +kernel), hs _ (by decide +kernel), fun j hj => ?_⟩
  have hj : j < 5 := hj
  rcases (show j = 0 ∨ j = 1 ∨ j = 2 ∨ j = 3 ∨ j = 4 by omega) with h | h | h | h | h
  · subst h; exact hs _ (by decide +kernel)
  · subst h; exact hs _ (by decide +kernel)
  · subst h; exact hs _ (by decide +kernel)
  · subst h; exact hs _ (by decide +kernel)
  · subst h; exact hs _ (by decide +kernel)
theorem sL4 {A0 : Array Value} {s : State} (hs : ∀ q ∈ flatC (Jvm.Cond.and given_1 narrow_1), q.before A0 s = true) : (Cond.exactly (tmS 4) "java/lang/String").before A0 s = true ∧ (Cond.eq (.field (tmS 4) "java/lang/String" "coder" "B") (.int 0)).before A0 s = true ∧ (Cond.arrayOf (.field (tmS 4) "java/lang/String" "value" "[B") .byte).before A0 s = true ∧ (Cond.eq (.length (.field (tmS 4) "java/lang/String" "value" "[B")) (.int (Int32.ofNat (strLen.getD 4 0)))).before A0 s = true ∧ ∀ j : Nat, j < strLen.getD 4 0 → (Cond.eq (.elem (.field (tmS 4) "java/lang/String" "value" "[B") (.int (Int32.ofNat j))) (.int ((strByt.getD 4 []).getD j 0))).before A0 s = true := by
  refine ⟨hs _ (by decide +kernel), hs _ (by decide +kernel), hs _ (by decide +kernel), hs _ (by decide +kernel), fun j hj => ?_⟩
  have hj : j < 6 := hj
  rcases (show j = 0 ∨ j = 1 ∨ j = 2 ∨ j = 3 ∨ j = 4 ∨ j = 5 by omega) with h | h | h | h | h | h
  · subst h; exact hs _ (by decide +kernel)
  · subst h; exact hs _ (by decide +kernel)
  · subst h; exact hs _ (by decide +kernel)
  · subst h; exact hs _ (by decide +kernel)
  · subst h; exact hs _ (by decide +kernel)
  · subst h; exact hs _ (by decide +kernel)
theorem sL5 {A0 : Array Value} {s : State} (hs : ∀ q ∈ flatC (Jvm.Cond.and given_1 narrow_1), q.before A0 s = true) : (Cond.exactly (tmS 5) "java/lang/String").before A0 s = true ∧ (Cond.eq (.field (tmS 5) "java/lang/String" "coder" "B") (.int 0)).before A0 s = true ∧ (Cond.arrayOf (.field (tmS 5) "java/lang/String" "value" "[B") .byte).before A0 s = true ∧ (Cond.eq (.length (.field (tmS 5) "java/lang/String" "value" "[B")) (.int (Int32.ofNat (strLen.getD 5 0)))).before A0 s = true ∧ ∀ j : Nat, j < strLen.getD 5 0 → (Cond.eq (.elem (.field (tmS 5) "java/lang/String" "value" "[B") (.int (Int32.ofNat j))) (.int ((strByt.getD 5 []).getD j 0))).before A0 s = true := by
  refine ⟨hs _ (by decide +kernel), hs _ (by decide +kernel), hs _ (by decide +kernel), hs _ (by decide +kernel), fun j hj => ?_⟩
  have hj : j < 8 := hj
  rcases (show j = 0 ∨ j = 1 ∨ j = 2 ∨ j = 3 ∨ j = 4 ∨ j = 5 ∨ j = 6 ∨ j = 7 by omega) with h | h | h | h | h | h | h | h
  · subst h; exact hs _ (by decide +kernel)
  · subst h; exact hs _ (by decide +kernel)
  · subst h; exact hs _ (by decide +kernel)
  · subst h; exact hs _ (by decide +kernel)
  · subst h; exact hs _ (by decide +kernel)
  · subst h; exact hs _ (by decide +kernel)
  · subst h; exact hs _ (by decide +kernel)
  · subst h; exact hs _ (by decide +kernel)
theorem sL6 {A0 : Array Value} {s : State} (hs : ∀ q ∈ flatC (Jvm.Cond.and given_1 narrow_1), q.before A0 s = true) : (Cond.exactly (tmS 6) "java/lang/String").before A0 s = true ∧ (Cond.eq (.field (tmS 6) "java/lang/String" "coder" "B") (.int 0)).before A0 s = true ∧ (Cond.arrayOf (.field (tmS 6) "java/lang/String" "value" "[B") .byte).before A0 s = true ∧ (Cond.eq (.length (.field (tmS 6) "java/lang/String" "value" "[B")) (.int (Int32.ofNat (strLen.getD 6 0)))).before A0 s = true ∧ ∀ j : Nat, j < strLen.getD 6 0 → (Cond.eq (.elem (.field (tmS 6) "java/lang/String" "value" "[B") (.int (Int32.ofNat j))) (.int ((strByt.getD 6 []).getD j 0))).before A0 s = true := by
  refine ⟨hs _ (by decide +kernel), hs _ (by decide +kernel), hs _ (by decide +kernel), hs _ (by decide +kernel), fun j hj => ?_⟩
  have hj : j < 4 := hj
  rcases (show j = 0 ∨ j = 1 ∨ j = 2 ∨ j = 3 by omega) with h | h | h | h
  · subst h; exact hs _ (by decide +kernel)
  · subst h; exact hs _ (by decide +kernel)
  · subst h; exact hs _ (by decide +kernel)
  · subst h; exact hs _ (by decide +kernel)
theorem sL7 {A0 : Array Value} {s : State} (hs : ∀ q ∈ flatC (Jvm.Cond.and given_1 narrow_1), q.before A0 s = true) : (Cond.exactly (tmS 7) "java/lang/String").before A0 s = true ∧ (Cond.eq (.field (tmS 7) "java/lang/String" "coder" "B") (.int 0)).before A0 s = true ∧ (Cond.arrayOf (.field (tmS 7) "java/lang/String" "value" "[B") .byte).before A0 s = true ∧ (Cond.eq (.length (.field (tmS 7) "java/lang/String" "value" "[B")) (.int (Int32.ofNat (strLen.getD 7 0)))).before A0 s = true ∧ ∀ j : Nat, j < strLen.getD 7 0 → (Cond.eq (.elem (.field (tmS 7) "java/lang/String" "value" "[B") (.int (Int32.ofNat j))) (.int ((strByt.getD 7 []).getD j 0))).before A0 s = true := by
  refine ⟨hs _ (by decide +kernel), hs _ (by decide +kernel), hs _ (by decide +kernel), hs _ (by decide +kernel), fun j hj => ?_⟩
  have hj : j < 4 := hj
  rcases (show j = 0 ∨ j = 1 ∨ j = 2 ∨ j = 3 by omega) with h | h | h | h
  · subst h; exact hs _ (by decide +kernel)
  · subst h; exact hs _ (by decide +kernel)
  · subst h; exact hs _ (by decide +kernel)
  · subst h; exact hs _ (by decide +kernel)
theorem sL8 {A0 : Array Value} {s : State} (hs : ∀ q ∈ flatC (Jvm.Cond.and given_1 narrow_1), q.before A0 s = true) : (Cond.exactly (tmS 8) "java/lang/String").before A0 s = true ∧ (Cond.eq (.field (tmS 8) "java/lang/String" "coder" "B") (.int 0)).before A0 s = true ∧ (Cond.arrayOf (.field (tmS 8) "java/lang/String" "value" "[B") .byte).before A0 s = true ∧ (Cond.eq (.length (.field (tmS 8) "java/lang/String" "value" "[B")) (.int (Int32.ofNat (strLen.getD 8 0)))).before A0 s = true ∧ ∀ j : Nat, j < strLen.getD 8 0 → (Cond.eq (.elem (.field (tmS 8) "java/lang/String" "value" "[B") (.int (Int32.ofNat j))) (.int ((strByt.getD 8 []).getD j 0))).before A0 s = true := by
  refine ⟨hs _ (by decide +kernel), hs _ (by decide +kernel), hs _ (by decide +kernel), hs _ (by decide +kernel), fun j hj => ?_⟩
  have hj : j < 4 := hj
  rcases (show j = 0 ∨ j = 1 ∨ j = 2 ∨ j = 3 by omega) with h | h | h | h
  · subst h; exact hs _ (by decide +kernel)
  · subst h; exact hs _ (by decide +kernel)
  · subst h; exact hs _ (by decide +kernel)
  · subst h; exact hs _ (by decide +kernel)
theorem sL9 {A0 : Array Value} {s : State} (hs : ∀ q ∈ flatC (Jvm.Cond.and given_1 narrow_1), q.before A0 s = true) : (Cond.exactly (tmS 9) "java/lang/String").before A0 s = true ∧ (Cond.eq (.field (tmS 9) "java/lang/String" "coder" "B") (.int 0)).before A0 s = true ∧ (Cond.arrayOf (.field (tmS 9) "java/lang/String" "value" "[B") .byte).before A0 s = true ∧ (Cond.eq (.length (.field (tmS 9) "java/lang/String" "value" "[B")) (.int (Int32.ofNat (strLen.getD 9 0)))).before A0 s = true ∧ ∀ j : Nat, j < strLen.getD 9 0 → (Cond.eq (.elem (.field (tmS 9) "java/lang/String" "value" "[B") (.int (Int32.ofNat j))) (.int ((strByt.getD 9 []).getD j 0))).before A0 s = true := by
  refine ⟨hs _ (by decide +kernel), hs _ (by decide +kernel), hs _ (by decide +kernel), hs _ (by decide +kernel), fun j hj => ?_⟩
  have hj : j < 5 := hj
  rcases (show j = 0 ∨ j = 1 ∨ j = 2 ∨ j = 3 ∨ j = 4 by omega) with h | h | h | h | h
  · subst h; exact hs _ (by decide +kernel)
  · subst h; exact hs _ (by decide +kernel)
  · subst h; exact hs _ (by decide +kernel)
  · subst h; exact hs _ (by decide +kernel)
  · subst h; exact hs _ (by decide +kernel)
theorem sN0 {A0 : Array Value} {s : State} (hs : ∀ q ∈ flatC (Jvm.Cond.and given_1 narrow_1), q.before A0 s = true) : ∀ j : Nat, 0 < j → j < 10 → (Cond.not (Cond.eq (tmS 0) (tmS j))).before A0 s = true := by
  intro j h1 h2
  rcases (show j = 1 ∨ j = 2 ∨ j = 3 ∨ j = 4 ∨ j = 5 ∨ j = 6 ∨ j = 7 ∨ j = 8 ∨ j = 9 by omega) with h | h | h | h | h | h | h | h | h
  · subst h; exact hs _ (by decide +kernel)
  · subst h; exact hs _ (by decide +kernel)
  · subst h; exact hs _ (by decide +kernel)
  · subst h; exact hs _ (by decide +kernel)
  · subst h; exact hs _ (by decide +kernel)
  · subst h; exact hs _ (by decide +kernel)
  · subst h; exact hs _ (by decide +kernel)
  · subst h; exact hs _ (by decide +kernel)
  · subst h; exact hs _ (by decide +kernel)
theorem sN1 {A0 : Array Value} {s : State} (hs : ∀ q ∈ flatC (Jvm.Cond.and given_1 narrow_1), q.before A0 s = true) : ∀ j : Nat, 1 < j → j < 10 → (Cond.not (Cond.eq (tmS 1) (tmS j))).before A0 s = true := by
  intro j h1 h2
  rcases (show j = 2 ∨ j = 3 ∨ j = 4 ∨ j = 5 ∨ j = 6 ∨ j = 7 ∨ j = 8 ∨ j = 9 by omega) with h | h | h | h | h | h | h | h
  · subst h; exact hs _ (by decide +kernel)
  · subst h; exact hs _ (by decide +kernel)
  · subst h; exact hs _ (by decide +kernel)
  · subst h; exact hs _ (by decide +kernel)
  · subst h; exact hs _ (by decide +kernel)
  · subst h; exact hs _ (by decide +kernel)
  · subst h; exact hs _ (by decide +kernel)
  · subst h; exact hs _ (by decide +kernel)
theorem sN2 {A0 : Array Value} {s : State} (hs : ∀ q ∈ flatC (Jvm.Cond.and given_1 narrow_1), q.before A0 s = true) : ∀ j : Nat, 2 < j → j < 10 → (Cond.not (Cond.eq (tmS 2) (tmS j))).before A0 s = true := by
  intro j h1 h2
  rcases (show j = 3 ∨ j = 4 ∨ j = 5 ∨ j = 6 ∨ j = 7 ∨ j = 8 ∨ j = 9 by omega) with h | h | h | h | h | h | h
  · subst h; exact hs _ (by decide +kernel)
  · subst h; exact hs _ (by decide +kernel)
  · subst h; exact hs _ (by decide +kernel)
  · subst h; exact hs _ (by decide +kernel)
  · subst h; exact hs _ (by decide +kernel)
  · subst h; exact hs _ (by decide +kernel)
  · subst h; exact hs _ (by decide +kernel)
theorem sN3 {A0 : Array Value} {s : State} (hs : ∀ q ∈ flatC (Jvm.Cond.and given_1 narrow_1), q.before A0 s = true) : ∀ j : Nat, 3 < j → j < 10 → (Cond.not (Cond.eq (tmS 3) (tmS j))).before A0 s = true := by
  intro j h1 h2
  rcases (show j = 4 ∨ j = 5 ∨ j = 6 ∨ j = 7 ∨ j = 8 ∨ j = 9 by omega) with h | h | h | h | h | h
  · subst h; exact hs _ (by decide +kernel)
  · subst h; exact hs _ (by decide +kernel)
  · subst h; exact hs _ (by decide +kernel)
  · subst h; exact hs _ (by decide +kernel)
  · subst h; exact hs _ (by decide +kernel)
  · subst h; exact hs _ (by decide +kernel)
theorem sN4 {A0 : Array Value} {s : State} (hs : ∀ q ∈ flatC (Jvm.Cond.and given_1 narrow_1), q.before A0 s = true) : ∀ j : Nat, 4 < j → j < 10 → (Cond.not (Cond.eq (tmS 4) (tmS j))).before A0 s = true := by
  intro j h1 h2
  rcases (show j = 5 ∨ j = 6 ∨ j = 7 ∨ j = 8 ∨ j = 9 by omega) with h | h | h | h | h
  · subst h; exact hs _ (by decide +kernel)
  · subst h; exact hs _ (by decide +kernel)
  · subst h; exact hs _ (by decide +kernel)
  · subst h; exact hs _ (by decide +kernel)
  · subst h; exact hs _ (by decide +kernel)
theorem sN5 {A0 : Array Value} {s : State} (hs : ∀ q ∈ flatC (Jvm.Cond.and given_1 narrow_1), q.before A0 s = true) : ∀ j : Nat, 5 < j → j < 10 → (Cond.not (Cond.eq (tmS 5) (tmS j))).before A0 s = true := by
  intro j h1 h2
  rcases (show j = 6 ∨ j = 7 ∨ j = 8 ∨ j = 9 by omega) with h | h | h | h
  · subst h; exact hs _ (by decide +kernel)
  · subst h; exact hs _ (by decide +kernel)
  · subst h; exact hs _ (by decide +kernel)
  · subst h; exact hs _ (by decide +kernel)
theorem sN6 {A0 : Array Value} {s : State} (hs : ∀ q ∈ flatC (Jvm.Cond.and given_1 narrow_1), q.before A0 s = true) : ∀ j : Nat, 6 < j → j < 10 → (Cond.not (Cond.eq (tmS 6) (tmS j))).before A0 s = true := by
  intro j h1 h2
  rcases (show j = 7 ∨ j = 8 ∨ j = 9 by omega) with h | h | h
  · subst h; exact hs _ (by decide +kernel)
  · subst h; exact hs _ (by decide +kernel)
  · subst h; exact hs _ (by decide +kernel)
theorem sN7 {A0 : Array Value} {s : State} (hs : ∀ q ∈ flatC (Jvm.Cond.and given_1 narrow_1), q.before A0 s = true) : ∀ j : Nat, 7 < j → j < 10 → (Cond.not (Cond.eq (tmS 7) (tmS j))).before A0 s = true := by
  intro j h1 h2
  rcases (show j = 8 ∨ j = 9 by omega) with h | h
  · subst h; exact hs _ (by decide +kernel)
  · subst h; exact hs _ (by decide +kernel)
theorem sN8 {A0 : Array Value} {s : State} (hs : ∀ q ∈ flatC (Jvm.Cond.and given_1 narrow_1), q.before A0 s = true) : ∀ j : Nat, 8 < j → j < 10 → (Cond.not (Cond.eq (tmS 8) (tmS j))).before A0 s = true := by
  intro j h1 h2
  have h : j = 9 := by omega
  subst h; exact hs _ (by decide +kernel)
theorem sN9 {A0 : Array Value} {s : State} (hs : ∀ q ∈ flatC (Jvm.Cond.and given_1 narrow_1), q.before A0 s = true) : ∀ j : Nat, 9 < j → j < 10 → (Cond.not (Cond.eq (tmS 9) (tmS j))).before A0 s = true := by
  intro j h1 h2
  exact absurd h2 (by omega)
theorem law_SS {s : State} {A0 : Array Value} {A : Nat → Prop} (hts : ∀ w ∈ lw_tbl, w.before A0 s = true) (hgv : (Jvm.Cond.and given_1 narrow_1).before A0 s = true) (hA : ∀ a : Nat, a < s.heap.size → ¬ A a) : ∃ adK adV : Nat → Nat, SS adK adV A s s.heap := by
  have hs := flat_of_before _ hgv
  obtain ⟨adK, adV, h1, h2⟩ := vk_Sof (args := A0) (s := s) (N := 10) (tm := tmS) (len := strLen) (byt := strByt) (A := A) (fun i hi => Nat.lt_of_le_of_lt (strLen_le i) (by decide)) (fun i hi => by
    rcases (show i = 0 ∨ i = 1 ∨ i = 2 ∨ i = 3 ∨ i = 4 ∨ i = 5 ∨ i = 6 ∨ i = 7 ∨ i = 8 ∨ i = 9 by omega) with h | h | h | h | h | h | h | h | h | h <;> subst h
    · exact (sL0 hs).1
    · exact (sL1 hs).1
    · exact (sL2 hs).1
    · exact (sL3 hs).1
    · exact (sL4 hs).1
    · exact (sL5 hs).1
    · exact (sL6 hs).1
    · exact (sL7 hs).1
    · exact (sL8 hs).1
    · exact (sL9 hs).1) (fun i hi => by
    rcases (show i = 0 ∨ i = 1 ∨ i = 2 ∨ i = 3 ∨ i = 4 ∨ i = 5 ∨ i = 6 ∨ i = 7 ∨ i = 8 ∨ i = 9 by omega) with h | h | h | h | h | h | h | h | h | h <;> subst h
    · exact (sL0 hs).2.1
    · exact (sL1 hs).2.1
    · exact (sL2 hs).2.1
    · exact (sL3 hs).2.1
    · exact (sL4 hs).2.1
    · exact (sL5 hs).2.1
    · exact (sL6 hs).2.1
    · exact (sL7 hs).2.1
    · exact (sL8 hs).2.1
    · exact (sL9 hs).2.1) (fun i hi => by
    rcases (show i = 0 ∨ i = 1 ∨ i = 2 ∨ i = 3 ∨ i = 4 ∨ i = 5 ∨ i = 6 ∨ i = 7 ∨ i = 8 ∨ i = 9 by omega) with h | h | h | h | h | h | h | h | h | h <;> subst h
    · exact (sL0 hs).2.2.1
    · exact (sL1 hs).2.2.1
    · exact (sL2 hs).2.2.1
    · exact (sL3 hs).2.2.1
    · exact (sL4 hs).2.2.1
    · exact (sL5 hs).2.2.1
    · exact (sL6 hs).2.2.1
    · exact (sL7 hs).2.2.1
    · exact (sL8 hs).2.2.1
    · exact (sL9 hs).2.2.1) (fun i hi => by
    rcases (show i = 0 ∨ i = 1 ∨ i = 2 ∨ i = 3 ∨ i = 4 ∨ i = 5 ∨ i = 6 ∨ i = 7 ∨ i = 8 ∨ i = 9 by omega) with h | h | h | h | h | h | h | h | h | h <;> subst h
    · exact (sL0 hs).2.2.2.1
    · exact (sL1 hs).2.2.2.1
    · exact (sL2 hs).2.2.2.1
    · exact (sL3 hs).2.2.2.1
    · exact (sL4 hs).2.2.2.1
    · exact (sL5 hs).2.2.2.1
    · exact (sL6 hs).2.2.2.1
    · exact (sL7 hs).2.2.2.1
    · exact (sL8 hs).2.2.2.1
    · exact (sL9 hs).2.2.2.1) (fun i hi => by
    rcases (show i = 0 ∨ i = 1 ∨ i = 2 ∨ i = 3 ∨ i = 4 ∨ i = 5 ∨ i = 6 ∨ i = 7 ∨ i = 8 ∨ i = 9 by omega) with h | h | h | h | h | h | h | h | h | h <;> subst h
    · exact (sL0 hs).2.2.2.2
    · exact (sL1 hs).2.2.2.2
    · exact (sL2 hs).2.2.2.2
    · exact (sL3 hs).2.2.2.2
    · exact (sL4 hs).2.2.2.2
    · exact (sL5 hs).2.2.2.2
    · exact (sL6 hs).2.2.2.2
    · exact (sL7 hs).2.2.2.2
    · exact (sL8 hs).2.2.2.2
    · exact (sL9 hs).2.2.2.2) (fun i j hi hj hij => by
    rcases Nat.lt_or_gt_of_ne hij with h9 | h9
    · refine Or.inl ?_
      rcases (show i = 0 ∨ i = 1 ∨ i = 2 ∨ i = 3 ∨ i = 4 ∨ i = 5 ∨ i = 6 ∨ i = 7 ∨ i = 8 ∨ i = 9 by omega) with h | h | h | h | h | h | h | h | h | h <;> subst h
      · exact sN0 hs j h9 hj
      · exact sN1 hs j h9 hj
      · exact sN2 hs j h9 hj
      · exact sN3 hs j h9 hj
      · exact sN4 hs j h9 hj
      · exact sN5 hs j h9 hj
      · exact sN6 hs j h9 hj
      · exact sN7 hs j h9 hj
      · exact sN8 hs j h9 hj
      · exact sN9 hs j h9 hj
    · refine Or.inr ?_
      rcases (show j = 0 ∨ j = 1 ∨ j = 2 ∨ j = 3 ∨ j = 4 ∨ j = 5 ∨ j = 6 ∨ j = 7 ∨ j = 8 ∨ j = 9 by omega) with h | h | h | h | h | h | h | h | h | h <;> subst h
      · exact sN0 hs i h9 hi
      · exact sN1 hs i h9 hi
      · exact sN2 hs i h9 hi
      · exact sN3 hs i h9 hi
      · exact sN4 hs i h9 hi
      · exact sN5 hs i h9 hi
      · exact sN6 hs i h9 hi
      · exact sN7 hs i h9 hi
      · exact sN8 hs i h9 hi
      · exact sN9 hs i h9 hi
    ) hA
  refine ⟨adK, adV, h1, fun i q hq => ?_, va_Zof (hts _ (List.mem_append_right _ (List.mem_of_getElem? (i := 412) (by decide +kernel)))) (hts _ (List.mem_append_right _ (List.mem_of_getElem? (i := 13) (by decide +kernel)))) (va_eqt (hs _ (by decide +kernel))) hA, va_Zqof (hts _ (List.mem_append_right _ (List.mem_of_getElem? (i := 428) (by decide +kernel)))) (hts _ (List.mem_append_right _ (List.mem_of_getElem? (i := 15) (by decide +kernel)))) (hs _ (by decide +kernel)) hA⟩
  have hi : i < 10 := (List.getElem?_eq_some_iff.mp hq).1
  have e2 := h2 i hi
  rcases (show i = 0 ∨ i = 1 ∨ i = 2 ∨ i = 3 ∨ i = 4 ∨ i = 5 ∨ i = 6 ∨ i = 7 ∨ i = 8 ∨ i = 9 by omega) with h | h | h | h | h | h | h | h | h | h <;> subst h
  · cases hq; exact vk_R.of (hts _ (List.mem_append_right _ (List.mem_of_getElem? (i := 394) (by decide +kernel)))) e2
  · cases hq; exact vk_R.of (hts _ (List.mem_append_right _ (List.mem_of_getElem? (i := 467) (by decide +kernel)))) e2
  · cases hq; exact vk_R.of (hts _ (List.mem_append_right _ (List.mem_of_getElem? (i := 476) (by decide +kernel)))) e2
  · cases hq; exact vk_R.of (hts _ (List.mem_append_right _ (List.mem_of_getElem? (i := 485) (by decide +kernel)))) e2
  · cases hq; exact vk_R.of (hts _ (List.mem_append_right _ (List.mem_of_getElem? (i := 486) (by decide +kernel)))) e2
  · cases hq; exact vk_R.of (hts _ (List.mem_append_right _ (List.mem_of_getElem? (i := 487) (by decide +kernel)))) e2
  · cases hq; exact vk_R.of (hts _ (List.mem_append_right _ (List.mem_of_getElem? (i := 488) (by decide +kernel)))) e2
  · cases hq; exact vk_R.of (hts _ (List.mem_append_right _ (List.mem_of_getElem? (i := 489) (by decide +kernel)))) e2
  · cases hq; exact vk_R.of (hts _ (List.mem_append_right _ (List.mem_of_getElem? (i := 490) (by decide +kernel)))) e2
  · cases hq; exact vk_R.of (hts _ (List.mem_append_right _ (List.mem_of_getElem? (i := 495) (by decide +kernel)))) e2

