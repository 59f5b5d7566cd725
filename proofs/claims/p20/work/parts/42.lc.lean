set_option maxHeartbeats 1000000 in
set_option maxRecDepth 100000 in
theorem lc_quiet {p : Program} {l : Launch} {e : Env} {s : State} {m : MethodId} {below : List Frame} {meth : Method} {c : Code} {b L : Nat} {xs : Nat → Int32} {dC : Nat → ClassId} {dI : Nat → Nat → Nat} {G : Nat → ClassId} {ax adK adV : Nat → Nat} {A : Nat → Prop} {Q : State → Prop} (C1 : lw_C p s m c b L xs dC dI G ax adK adV A) {k : Nat} (hk : 5 * k + 5 ≤ L) (hL : L ≤ 2560) {H : Heap} {locs : List Loc} {ls : Array Slot} (hI : LI dC dI G ax H) (hS : va_S A s.heap H locs) (hl : lv_has ls 4 [(3, .int (nI (5 * k))), (2, .ref (ax 112)), (1, .ref (ax 0)), (0, .ref b)]) (kk : ∀ (H : Heap) (locs : List Loc), LI dC dI G ax H → va_S A s.heap H locs → W p l e room_1 s m #[Value.ref b] below meth c H locs 129 4562 Q (F0 m 1381 ls [])) : W p l e room_1 s m #[Value.ref b] below meth c H locs 129 4562 Q (F0 m 824 ls []) := by
  obtain ⟨hx, hb, hml, hown, hg, hX, hbl, hbA, hK, hi, hAx, hA, hSS⟩ := C1
  obtain ⟨T, Y, fa, W0, W1, W2, N, B, N1, B1, N2, B2, K, S, M, E, Z, hXI, hMI⟩ := hI
  refine lv_aload_n hx hb dL_law_824 rfl (lv_at hl 2 rfl) ?_
  refine lv_aload_n hx hb dL_law_825 rfl (lv_at hl 3 rfl) ?_
  refine lv_iload_n hx hb dL_law_826 rfl (lv_at hl 0 rfl) ?_
  refine lv_iconst (v := 1) hx hb dL_law_827 (by decide) ?_
  refine lv_iadd hx hb dL_law_828 ?_
  refine lv_cg (y := nI (5 * k + 1)) (by rw [show (1 : Int32) = nI 1 from rfl]; exact nI_add _ _) ?_
  refine va_sld hx hb hX hbl hbA hS (vp_in_nI (by omega) (by omega)) dL_law_829 ?_
  refine lv_cg (y := xs (5 * k + 1)) (by rw [nI_clamp (by omega)]) ?_
  refine lv_aload_n hx hb dL_law_830 rfl (lv_at hl 3 rfl) ?_
  refine lv_iload_n hx hb dL_law_831 rfl (lv_at hl 0 rfl) ?_
  refine lv_iconst (v := 2) hx hb dL_law_832 (by decide) ?_
  refine lv_iadd hx hb dL_law_833 ?_
  refine lv_cg (y := nI (5 * k + 2)) (by rw [show (2 : Int32) = nI 2 from rfl]; exact nI_add _ _) ?_
  refine va_sld hx hb hX hbl hbA hS (vp_in_nI (by omega) (by omega)) dL_law_834 ?_
  refine lv_cg (y := xs (5 * k + 2)) (by rw [nI_clamp (by omega)]) ?_
  refine va_calll (va_runV (As := [.int (xs (5 * k + 1)), .int (xs (5 * k + 2))]) (rest := []) ⟨hx, hb, hml, hown, hg⟩ (k_X10_quiet l dC dI G _ ax hi T Y fa W0 W1 W2 N B N1 B1 N2 B2 K S M E Z (xs (5 * k + 1)) (xs (5 * k + 2))) (kwV hg mfX10_quiet wt_690 ⟨Nat.le_of_ble_eq_true rfl, Nat.le_of_ble_eq_true rfl⟩) (preVI hK hXI (hXI.recv hK)) rfl rfl hl.1 rfl (lv_room (Nat.le_of_ble_eq_true rfl)) dL_law_835 ⟨Nat.le_of_ble_eq_true rfl, Nat.le_of_ble_eq_true rfl⟩) hS (fun q _ h => ad_A hAx hA (by decide) hS q h) (ad_A hAx hA (by decide) hS) (fun r1 u1 t1 H1 locs1 ht1 hv1 w1 hB1 hz1 hk1 hS => ?_)
  have hMI := hMI.kept (fr_ad (lo := 0) (hi := 112) hi (by decide) (by decide) (by decide) hk1)
  have hXI : X10I dC dI G ax T Y fa W0 W1 W2 N B N1 B1 N2 B2 K S M E Z H1 := by rw [← ht1]; exact hB1
  refine W.widen (k := 129) (n := 4562) (by omega) (by omega) ?_
  refine lv_pop2_2 hx hb dL_law_838 rfl ?_
  refine lv_aload_n hx hb dL_law_839 rfl (lv_at hl 1 rfl) ?_
  refine lv_aload_n hx hb dL_law_840 rfl (lv_at hl 3 rfl) ?_
  refine lv_iload_n hx hb dL_law_841 rfl (lv_at hl 0 rfl) ?_
  refine lv_iconst (v := 1) hx hb dL_law_842 (by decide) ?_
  refine lv_iadd hx hb dL_law_843 ?_
  refine lv_cg (y := nI (5 * k + 1)) (by rw [show (1 : Int32) = nI 1 from rfl]; exact nI_add _ _) ?_
  refine va_sld hx hb hX hbl hbA hS (vp_in_nI (by omega) (by omega)) dL_law_844 ?_
  refine lv_cg (y := xs (5 * k + 1)) (by rw [nI_clamp (by omega)]) ?_
  refine lv_aload_n hx hb dL_law_845 rfl (lv_at hl 3 rfl) ?_
  refine lv_iload_n hx hb dL_law_846 rfl (lv_at hl 0 rfl) ?_
  refine lv_iconst (v := 2) hx hb dL_law_847 (by decide) ?_
  refine lv_iadd hx hb dL_law_848 ?_
  refine lv_cg (y := nI (5 * k + 2)) (by rw [show (2 : Int32) = nI 2 from rfl]; exact nI_add _ _) ?_
  refine va_sld hx hb hX hbl hbA hS (vp_in_nI (by omega) (by omega)) dL_law_849 ?_
  refine lv_cg (y := xs (5 * k + 2)) (by rw [nI_clamp (by omega)]) ?_
  refine va_calll (va_runV (As := [.int (xs (5 * k + 1)), .int (xs (5 * k + 2))]) (rest := []) ⟨hx, hb, hml, hown, hg⟩ (k_X11_quiet l dC dI G _ ax hi T Y fa W0 W1 W2 N B N1 B1 N2 B2 K S M E Z (xs (5 * k + 1)) (xs (5 * k + 2))) (kwV hg mfX11_quiet wt_1171 ⟨Nat.le_of_ble_eq_true rfl, Nat.le_of_ble_eq_true rfl⟩) (preVI hK hMI (hMI.recv hK)) rfl rfl hl.1 rfl (lv_room (Nat.le_of_ble_eq_true rfl)) dL_law_850 ⟨Nat.le_of_ble_eq_true rfl, Nat.le_of_ble_eq_true rfl⟩) hS (fun q _ h => ad_A hAx hA (by decide) hS q h) (ad_A hAx hA (by decide) hS) (fun r2 u2 t2 H2 locs2 ht2 hv2 w2 hB2 hz2 hk2 hS => ?_)
  have hXI := hXI.kept (fr_ad (lo := 112) (hi := 129) hi (by decide) (by decide) (by decide) hk2)
  have hMI : X11I dC dI G ax T Y fa W0 W1 W2 N B N1 B1 N2 B2 K S M E Z H2 := by rw [← ht2]; exact hB2
  refine W.widen (k := 129) (n := 4562) (by omega) (by omega) ?_
  refine lv_pop2_2 hx hb dL_law_853 rfl ?_
  refine lv_goto (tgt := 1381) hx hb dL_law_854 (by decide) ?_
  exact kk _ _ ⟨_, _, _, _, _, _, _, _, _, _, _, _, _, _, _, _, _, hXI, hMI⟩ hS

set_option maxHeartbeats 1000000 in
set_option maxRecDepth 100000 in
theorem lc_drop {p : Program} {l : Launch} {e : Env} {s : State} {m : MethodId} {below : List Frame} {meth : Method} {c : Code} {b L : Nat} {xs : Nat → Int32} {dC : Nat → ClassId} {dI : Nat → Nat → Nat} {G : Nat → ClassId} {ax adK adV : Nat → Nat} {A : Nat → Prop} {Q : State → Prop} (C1 : lw_C p s m c b L xs dC dI G ax adK adV A) {k : Nat} (hk : 5 * k + 5 ≤ L) (hL : L ≤ 2560) {H : Heap} {locs : List Loc} {ls : Array Slot} (hI : LI dC dI G ax H) (hS : va_S A s.heap H locs) (hl : lv_has ls 4 [(3, .int (nI (5 * k))), (2, .ref (ax 112)), (1, .ref (ax 0)), (0, .ref b)]) (kk : ∀ (H : Heap) (locs : List Loc), LI dC dI G ax H → va_S A s.heap H locs → W p l e room_1 s m #[Value.ref b] below meth c H locs 129 4562 Q (F0 m 1381 ls [])) : W p l e room_1 s m #[Value.ref b] below meth c H locs 129 4562 Q (F0 m 857 ls []) := by
  obtain ⟨hx, hb, hml, hown, hg, hX, hbl, hbA, hK, hi, hAx, hA, hSS⟩ := C1
  obtain ⟨T, Y, fa, W0, W1, W2, N, B, N1, B1, N2, B2, K, S, M, E, Z, hXI, hMI⟩ := hI
  refine lv_aload_n hx hb dL_law_857 rfl (lv_at hl 2 rfl) ?_
  refine lv_aload_n hx hb dL_law_858 rfl (lv_at hl 3 rfl) ?_
  refine lv_iload_n hx hb dL_law_859 rfl (lv_at hl 0 rfl) ?_
  refine lv_iconst (v := 1) hx hb dL_law_860 (by decide) ?_
  refine lv_iadd hx hb dL_law_861 ?_
  refine lv_cg (y := nI (5 * k + 1)) (by rw [show (1 : Int32) = nI 1 from rfl]; exact nI_add _ _) ?_
  refine va_sld hx hb hX hbl hbA hS (vp_in_nI (by omega) (by omega)) dL_law_862 ?_
  refine lv_cg (y := xs (5 * k + 1)) (by rw [nI_clamp (by omega)]) ?_
  refine va_calll (va_runV (As := [.int (xs (5 * k + 1))]) (rest := []) ⟨hx, hb, hml, hown, hg⟩ (k_X10_drop l dC dI G _ ax hi T Y fa W0 W1 W2 N B N1 B1 N2 B2 K S M E Z (xs (5 * k + 1))) (kwV hg mfX10_drop wt_707 ⟨Nat.le_of_ble_eq_true rfl, Nat.le_of_ble_eq_true rfl⟩) (preVI hK hXI (hXI.recv hK)) rfl rfl hl.1 rfl (lv_room (Nat.le_of_ble_eq_true rfl)) dL_law_863 ⟨Nat.le_of_ble_eq_true rfl, Nat.le_of_ble_eq_true rfl⟩) hS (fun q _ h => ad_A hAx hA (by decide) hS q h) (ad_A hAx hA (by decide) hS) (fun r1 u1 t1 H1 locs1 ht1 hv1 w1 hB1 hz1 hk1 hS => ?_)
  have hMI := hMI.kept (fr_ad (lo := 0) (hi := 112) hi (by decide) (by decide) (by decide) hk1)
  have hXI : X10I dC dI G ax T Y fa W0 W1 W2 N B N1 B1 N2 B2 K S M E Z H1 := by rw [← ht1]; exact hB1
  refine W.widen (k := 129) (n := 4562) (by omega) (by omega) ?_
  refine lv_pop2_2 hx hb dL_law_866 rfl ?_
  refine lv_aload_n hx hb dL_law_867 rfl (lv_at hl 1 rfl) ?_
  refine lv_aload_n hx hb dL_law_868 rfl (lv_at hl 3 rfl) ?_
  refine lv_iload_n hx hb dL_law_869 rfl (lv_at hl 0 rfl) ?_
  refine lv_iconst (v := 1) hx hb dL_law_870 (by decide) ?_
  refine lv_iadd hx hb dL_law_871 ?_
  refine lv_cg (y := nI (5 * k + 1)) (by rw [show (1 : Int32) = nI 1 from rfl]; exact nI_add _ _) ?_
  refine va_sld hx hb hX hbl hbA hS (vp_in_nI (by omega) (by omega)) dL_law_872 ?_
  refine lv_cg (y := xs (5 * k + 1)) (by rw [nI_clamp (by omega)]) ?_
  refine va_calll (va_runV (As := [.int (xs (5 * k + 1))]) (rest := []) ⟨hx, hb, hml, hown, hg⟩ (k_X11_drop l dC dI G _ ax hi T Y fa W0 W1 W2 N B N1 B1 N2 B2 K S M E Z (xs (5 * k + 1))) (kwV hg mfX11_drop wt_1179 ⟨Nat.le_of_ble_eq_true rfl, Nat.le_of_ble_eq_true rfl⟩) (preVI hK hMI (hMI.recv hK)) rfl rfl hl.1 rfl (lv_room (Nat.le_of_ble_eq_true rfl)) dL_law_873 ⟨Nat.le_of_ble_eq_true rfl, Nat.le_of_ble_eq_true rfl⟩) hS (fun q _ h => ad_A hAx hA (by decide) hS q h) (ad_A hAx hA (by decide) hS) (fun r2 u2 t2 H2 locs2 ht2 hv2 w2 hB2 hz2 hk2 hS => ?_)
  have hXI := hXI.kept (fr_ad (lo := 112) (hi := 129) hi (by decide) (by decide) (by decide) hk2)
  have hMI : X11I dC dI G ax T Y fa W0 W1 W2 N B N1 B1 N2 B2 K S M E Z H2 := by rw [← ht2]; exact hB2
  refine W.widen (k := 129) (n := 4562) (by omega) (by omega) ?_
  refine lv_pop2_2 hx hb dL_law_876 rfl ?_
  refine lv_goto (tgt := 1381) hx hb dL_law_877 (by decide) ?_
  exact kk _ _ ⟨_, _, _, _, _, _, _, _, _, _, _, _, _, _, _, _, _, hXI, hMI⟩ hS

set_option maxHeartbeats 1000000 in
set_option maxRecDepth 100000 in
theorem lc_swap {p : Program} {l : Launch} {e : Env} {s : State} {m : MethodId} {below : List Frame} {meth : Method} {c : Code} {b L : Nat} {xs : Nat → Int32} {dC : Nat → ClassId} {dI : Nat → Nat → Nat} {G : Nat → ClassId} {ax adK adV : Nat → Nat} {A : Nat → Prop} {Q : State → Prop} (C1 : lw_C p s m c b L xs dC dI G ax adK adV A) {k : Nat} (hk : 5 * k + 5 ≤ L) (hL : L ≤ 2560) {H : Heap} {locs : List Loc} {ls : Array Slot} (hI : LI dC dI G ax H) (hS : va_S A s.heap H locs) (hl : lv_has ls 4 [(3, .int (nI (5 * k))), (2, .ref (ax 112)), (1, .ref (ax 0)), (0, .ref b)]) (kk : ∀ (H : Heap) (locs : List Loc), LI dC dI G ax H → va_S A s.heap H locs → W p l e room_1 s m #[Value.ref b] below meth c H locs 129 4562 Q (F0 m 1381 ls [])) : W p l e room_1 s m #[Value.ref b] below meth c H locs 129 4562 Q (F0 m 880 ls []) := by
  obtain ⟨hx, hb, hml, hown, hg, hX, hbl, hbA, hK, hi, hAx, hA, hSS⟩ := C1
  obtain ⟨T, Y, fa, W0, W1, W2, N, B, N1, B1, N2, B2, K, S, M, E, Z, hXI, hMI⟩ := hI
  refine lv_aload_n hx hb dL_law_880 rfl (lv_at hl 2 rfl) ?_
  refine lv_aload_n hx hb dL_law_881 rfl (lv_at hl 3 rfl) ?_
  refine lv_iload_n hx hb dL_law_882 rfl (lv_at hl 0 rfl) ?_
  refine lv_iconst (v := 1) hx hb dL_law_883 (by decide) ?_
  refine lv_iadd hx hb dL_law_884 ?_
  refine lv_cg (y := nI (5 * k + 1)) (by rw [show (1 : Int32) = nI 1 from rfl]; exact nI_add _ _) ?_
  refine va_sld hx hb hX hbl hbA hS (vp_in_nI (by omega) (by omega)) dL_law_885 ?_
  refine lv_cg (y := xs (5 * k + 1)) (by rw [nI_clamp (by omega)]) ?_
  refine va_calll (va_runV (As := [.int (xs (5 * k + 1))]) (rest := []) ⟨hx, hb, hml, hown, hg⟩ (k_X10_swap l dC dI G _ ax hi T Y fa W0 W1 W2 N B N1 B1 N2 B2 K S M E Z (xs (5 * k + 1))) (kwV hg mfX10_swap wt_711 ⟨Nat.le_of_ble_eq_true rfl, Nat.le_of_ble_eq_true rfl⟩) (preVI hK hXI (hXI.recv hK)) rfl rfl hl.1 rfl (lv_room (Nat.le_of_ble_eq_true rfl)) dL_law_886 ⟨Nat.le_of_ble_eq_true rfl, Nat.le_of_ble_eq_true rfl⟩) hS (fun q _ h => ad_A hAx hA (by decide) hS q h) (ad_A hAx hA (by decide) hS) (fun r1 u1 t1 H1 locs1 ht1 hv1 w1 hB1 hz1 hk1 hS => ?_)
  have hMI := hMI.kept (fr_ad (lo := 0) (hi := 112) hi (by decide) (by decide) (by decide) hk1)
  have hXI : X10I dC dI G ax T Y fa W0 W1 W2 N B N1 B1 N2 B2 K S M E Z H1 := by rw [← ht1]; exact hB1
  refine W.widen (k := 129) (n := 4562) (by omega) (by omega) ?_
  refine lv_pop2_2 hx hb dL_law_889 rfl ?_
  refine lv_aload_n hx hb dL_law_890 rfl (lv_at hl 1 rfl) ?_
  refine lv_aload_n hx hb dL_law_891 rfl (lv_at hl 3 rfl) ?_
  refine lv_iload_n hx hb dL_law_892 rfl (lv_at hl 0 rfl) ?_
  refine lv_iconst (v := 1) hx hb dL_law_893 (by decide) ?_
  refine lv_iadd hx hb dL_law_894 ?_
  refine lv_cg (y := nI (5 * k + 1)) (by rw [show (1 : Int32) = nI 1 from rfl]; exact nI_add _ _) ?_
  refine va_sld hx hb hX hbl hbA hS (vp_in_nI (by omega) (by omega)) dL_law_895 ?_
  refine lv_cg (y := xs (5 * k + 1)) (by rw [nI_clamp (by omega)]) ?_
  refine va_calll (va_runV (As := [.int (xs (5 * k + 1))]) (rest := []) ⟨hx, hb, hml, hown, hg⟩ (k_X11_swapW l dC dI G _ ax hi T Y fa W0 W1 W2 N B N1 B1 N2 B2 K S M E Z (xs (5 * k + 1))) (kwV hg mfX11_swap wt_1183 ⟨Nat.le_of_ble_eq_true rfl, Nat.le_of_ble_eq_true rfl⟩) (preVI hK hMI (hMI.recv hK)) rfl rfl hl.1 rfl (lv_room (Nat.le_of_ble_eq_true rfl)) dL_law_896 ⟨Nat.le_of_ble_eq_true rfl, Nat.le_of_ble_eq_true rfl⟩) hS (fun q _ h => ad_A hAx hA (by decide) hS q h) (ad_A hAx hA (by decide) hS) (fun r2 u2 t2 H2 locs2 ht2 hv2 w2 hB2 hz2 hk2 hS => ?_)
  have hXI := hXI.kept (fr_ad (lo := 112) (hi := 129) hi (by decide) (by decide) (by decide) hk2)
  have hMI : X11I dC dI G ax T Y fa W0 W1 W2 N B N1 B1 N2 B2 K S M E Z H2 := by rw [← ht2]; exact hB2
  refine W.widen (k := 129) (n := 4562) (by omega) (by omega) ?_
  refine lv_pop2_2 hx hb dL_law_899 rfl ?_
  refine lv_goto (tgt := 1381) hx hb dL_law_900 (by decide) ?_
  exact kk _ _ ⟨_, _, _, _, _, _, _, _, _, _, _, _, _, _, _, _, _, hXI, hMI⟩ hS

set_option maxHeartbeats 1000000 in
set_option maxRecDepth 100000 in
theorem lc_carry {p : Program} {l : Launch} {e : Env} {s : State} {m : MethodId} {below : List Frame} {meth : Method} {c : Code} {b L : Nat} {xs : Nat → Int32} {dC : Nat → ClassId} {dI : Nat → Nat → Nat} {G : Nat → ClassId} {ax adK adV : Nat → Nat} {A : Nat → Prop} {Q : State → Prop} (C1 : lw_C p s m c b L xs dC dI G ax adK adV A) {k : Nat} (hk : 5 * k + 5 ≤ L) (hL : L ≤ 2560) {H : Heap} {locs : List Loc} {ls : Array Slot} (hI : LI dC dI G ax H) (hS : va_S A s.heap H locs) (hl : lv_has ls 4 [(3, .int (nI (5 * k))), (2, .ref (ax 112)), (1, .ref (ax 0)), (0, .ref b)]) (kk : ∀ (H : Heap) (locs : List Loc), LI dC dI G ax H → va_S A s.heap H locs → W p l e room_1 s m #[Value.ref b] below meth c H locs 129 4562 Q (F0 m 1381 ls [])) : W p l e room_1 s m #[Value.ref b] below meth c H locs 129 4562 Q (F0 m 903 ls []) := by
  obtain ⟨hx, hb, hml, hown, hg, hX, hbl, hbA, hK, hi, hAx, hA, hSS⟩ := C1
  obtain ⟨T, Y, fa, W0, W1, W2, N, B, N1, B1, N2, B2, K, S, M, E, Z, hXI, hMI⟩ := hI
  refine lv_aload_n hx hb dL_law_903 rfl (lv_at hl 2 rfl) ?_
  refine lv_aload_n hx hb dL_law_904 rfl (lv_at hl 3 rfl) ?_
  refine lv_iload_n hx hb dL_law_905 rfl (lv_at hl 0 rfl) ?_
  refine lv_iconst (v := 1) hx hb dL_law_906 (by decide) ?_
  refine lv_iadd hx hb dL_law_907 ?_
  refine lv_cg (y := nI (5 * k + 1)) (by rw [show (1 : Int32) = nI 1 from rfl]; exact nI_add _ _) ?_
  refine va_sld hx hb hX hbl hbA hS (vp_in_nI (by omega) (by omega)) dL_law_908 ?_
  refine lv_cg (y := xs (5 * k + 1)) (by rw [nI_clamp (by omega)]) ?_
  refine lv_aload_n hx hb dL_law_909 rfl (lv_at hl 3 rfl) ?_
  refine lv_iload_n hx hb dL_law_910 rfl (lv_at hl 0 rfl) ?_
  refine lv_iconst (v := 2) hx hb dL_law_911 (by decide) ?_
  refine lv_iadd hx hb dL_law_912 ?_
  refine lv_cg (y := nI (5 * k + 2)) (by rw [show (2 : Int32) = nI 2 from rfl]; exact nI_add _ _) ?_
  refine va_sld hx hb hX hbl hbA hS (vp_in_nI (by omega) (by omega)) dL_law_913 ?_
  refine lv_cg (y := xs (5 * k + 2)) (by rw [nI_clamp (by omega)]) ?_
  refine va_calli (va_runV (As := [.int (xs (5 * k + 1)), .int (xs (5 * k + 2))]) (rest := []) ⟨hx, hb, hml, hown, hg⟩ (k_X10_carry l dC dI G _ ax hi T Y fa W0 W1 W2 N B N1 B1 N2 B2 K S M E Z (xs (5 * k + 1)) (xs (5 * k + 2))) (kwV hg mfX10_carry wt_719 ⟨Nat.le_of_ble_eq_true rfl, Nat.le_of_ble_eq_true rfl⟩) (preVI hK hXI (hXI.recv hK)) rfl rfl hl.1 rfl (lv_room (Nat.le_of_ble_eq_true rfl)) dL_law_914 ⟨Nat.le_of_ble_eq_true rfl, Nat.le_of_ble_eq_true rfl⟩) hS (fun q _ h => ad_A hAx hA (by decide) hS q h) (ad_A hAx hA (by decide) hS) (fun r1 u1 t1 H1 locs1 ht1 hv1 w1 hB1 hz1 hk1 hS => ?_)
  have hMI := hMI.kept (fr_ad (lo := 0) (hi := 112) hi (by decide) (by decide) (by decide) hk1)
  have hXI : X10I dC dI G ax T Y fa W0 W1 W2 N B N1 B1 N2 B2 K S M E Z H1 := by rw [← ht1]; exact hB1
  refine W.widen (k := 129) (n := 4562) (by omega) (by omega) ?_
  refine lv_pop hx hb dL_law_917 rfl ?_
  refine lv_aload_n hx hb dL_law_918 rfl (lv_at hl 1 rfl) ?_
  refine lv_aload_n hx hb dL_law_919 rfl (lv_at hl 3 rfl) ?_
  refine lv_iload_n hx hb dL_law_920 rfl (lv_at hl 0 rfl) ?_
  refine lv_iconst (v := 1) hx hb dL_law_921 (by decide) ?_
  refine lv_iadd hx hb dL_law_922 ?_
  refine lv_cg (y := nI (5 * k + 1)) (by rw [show (1 : Int32) = nI 1 from rfl]; exact nI_add _ _) ?_
  refine va_sld hx hb hX hbl hbA hS (vp_in_nI (by omega) (by omega)) dL_law_923 ?_
  refine lv_cg (y := xs (5 * k + 1)) (by rw [nI_clamp (by omega)]) ?_
  refine lv_aload_n hx hb dL_law_924 rfl (lv_at hl 3 rfl) ?_
  refine lv_iload_n hx hb dL_law_925 rfl (lv_at hl 0 rfl) ?_
  refine lv_iconst (v := 2) hx hb dL_law_926 (by decide) ?_
  refine lv_iadd hx hb dL_law_927 ?_
  refine lv_cg (y := nI (5 * k + 2)) (by rw [show (2 : Int32) = nI 2 from rfl]; exact nI_add _ _) ?_
  refine va_sld hx hb hX hbl hbA hS (vp_in_nI (by omega) (by omega)) dL_law_928 ?_
  refine lv_cg (y := xs (5 * k + 2)) (by rw [nI_clamp (by omega)]) ?_
  refine va_calli (va_runV (As := [.int (xs (5 * k + 1)), .int (xs (5 * k + 2))]) (rest := []) ⟨hx, hb, hml, hown, hg⟩ (k_X11_carry l dC dI G _ ax hi T Y fa W0 W1 W2 N B N1 B1 N2 B2 K S M E Z (xs (5 * k + 1)) (xs (5 * k + 2))) (kwV hg mfX11_carry wt_1191 ⟨Nat.le_of_ble_eq_true rfl, Nat.le_of_ble_eq_true rfl⟩) (preVI hK hMI (hMI.recv hK)) rfl rfl hl.1 rfl (lv_room (Nat.le_of_ble_eq_true rfl)) dL_law_929 ⟨Nat.le_of_ble_eq_true rfl, Nat.le_of_ble_eq_true rfl⟩) hS (fun q _ h => ad_A hAx hA (by decide) hS q h) (ad_A hAx hA (by decide) hS) (fun r2 u2 t2 H2 locs2 ht2 hv2 w2 hB2 hz2 hk2 hS => ?_)
  have hXI := hXI.kept (fr_ad (lo := 112) (hi := 129) hi (by decide) (by decide) (by decide) hk2)
  have hMI : X11I dC dI G ax T Y fa W0 W1 W2 N B N1 B1 N2 B2 K S M E Z H2 := by rw [← ht2]; exact hB2
  refine W.widen (k := 129) (n := 4562) (by omega) (by omega) ?_
  refine lv_pop hx hb dL_law_932 rfl ?_
  refine lv_goto (tgt := 1381) hx hb dL_law_933 (by decide) ?_
  exact kk _ _ ⟨_, _, _, _, _, _, _, _, _, _, _, _, _, _, _, _, _, hXI, hMI⟩ hS

set_option maxHeartbeats 1000000 in
set_option maxRecDepth 100000 in
theorem lc_learn {p : Program} {l : Launch} {e : Env} {s : State} {m : MethodId} {below : List Frame} {meth : Method} {c : Code} {b L : Nat} {xs : Nat → Int32} {dC : Nat → ClassId} {dI : Nat → Nat → Nat} {G : Nat → ClassId} {ax adK adV : Nat → Nat} {A : Nat → Prop} {Q : State → Prop} (C1 : lw_C p s m c b L xs dC dI G ax adK adV A) {k : Nat} (hk : 5 * k + 5 ≤ L) (hL : L ≤ 2560) {H : Heap} {locs : List Loc} {ls : Array Slot} (hI : LI dC dI G ax H) (hS : va_S A s.heap H locs) (hl : lv_has ls 4 [(3, .int (nI (5 * k))), (2, .ref (ax 112)), (1, .ref (ax 0)), (0, .ref b)]) (kk : ∀ (H : Heap) (locs : List Loc), LI dC dI G ax H → va_S A s.heap H locs → W p l e room_1 s m #[Value.ref b] below meth c H locs 129 4562 Q (F0 m 1381 ls [])) : W p l e room_1 s m #[Value.ref b] below meth c H locs 129 4562 Q (F0 m 936 ls []) := by
  obtain ⟨hx, hb, hml, hown, hg, hX, hbl, hbA, hK, hi, hAx, hA, hSS⟩ := C1
  obtain ⟨T, Y, fa, W0, W1, W2, N, B, N1, B1, N2, B2, K, S, M, E, Z, hXI, hMI⟩ := hI
  refine lv_aload_n hx hb dL_law_936 rfl (lv_at hl 2 rfl) ?_
  refine lv_aload_n hx hb dL_law_937 rfl (lv_at hl 3 rfl) ?_
  refine lv_iload_n hx hb dL_law_938 rfl (lv_at hl 0 rfl) ?_
  refine lv_iconst (v := 1) hx hb dL_law_939 (by decide) ?_
  refine lv_iadd hx hb dL_law_940 ?_
  refine lv_cg (y := nI (5 * k + 1)) (by rw [show (1 : Int32) = nI 1 from rfl]; exact nI_add _ _) ?_
  refine va_sld hx hb hX hbl hbA hS (vp_in_nI (by omega) (by omega)) dL_law_941 ?_
  refine lv_cg (y := xs (5 * k + 1)) (by rw [nI_clamp (by omega)]) ?_
  refine lv_aload_n hx hb dL_law_942 rfl (lv_at hl 3 rfl) ?_
  refine lv_iload_n hx hb dL_law_943 rfl (lv_at hl 0 rfl) ?_
  refine lv_iconst (v := 2) hx hb dL_law_944 (by decide) ?_
  refine lv_iadd hx hb dL_law_945 ?_
  refine lv_cg (y := nI (5 * k + 2)) (by rw [show (2 : Int32) = nI 2 from rfl]; exact nI_add _ _) ?_
  refine va_sld hx hb hX hbl hbA hS (vp_in_nI (by omega) (by omega)) dL_law_946 ?_
  refine lv_cg (y := xs (5 * k + 2)) (by rw [nI_clamp (by omega)]) ?_
  refine lv_aload_n hx hb dL_law_947 rfl (lv_at hl 3 rfl) ?_
  refine lv_iload_n hx hb dL_law_948 rfl (lv_at hl 0 rfl) ?_
  refine lv_iconst (v := 3) hx hb dL_law_949 (by decide) ?_
  refine lv_iadd hx hb dL_law_950 ?_
  refine lv_cg (y := nI (5 * k + 3)) (by rw [show (3 : Int32) = nI 3 from rfl]; exact nI_add _ _) ?_
  refine va_sld hx hb hX hbl hbA hS (vp_in_nI (by omega) (by omega)) dL_law_951 ?_
  refine lv_cg (y := xs (5 * k + 3)) (by rw [nI_clamp (by omega)]) ?_
  refine lv_aload_n hx hb dL_law_952 rfl (lv_at hl 3 rfl) ?_
  refine lv_iload_n hx hb dL_law_953 rfl (lv_at hl 0 rfl) ?_
  refine lv_iconst (v := 4) hx hb dL_law_954 (by decide) ?_
  refine lv_iadd hx hb dL_law_955 ?_
  refine lv_cg (y := nI (5 * k + 4)) (by rw [show (4 : Int32) = nI 4 from rfl]; exact nI_add _ _) ?_
  refine va_sld hx hb hX hbl hbA hS (vp_in_nI (by omega) (by omega)) dL_law_956 ?_
  refine lv_cg (y := xs (5 * k + 4)) (by rw [nI_clamp (by omega)]) ?_
  refine va_calli (va_runV (As := [.int (xs (5 * k + 1)), .int (xs (5 * k + 2)), .int (xs (5 * k + 3)), .int (xs (5 * k + 4))]) (rest := []) ⟨hx, hb, hml, hown, hg⟩ (k_X10_learnE l dC dI G _ ax hi T Y fa W0 W1 W2 N B N1 B1 N2 B2 K S M E Z (xs (5 * k + 1)) (xs (5 * k + 2)) (xs (5 * k + 3)) (xs (5 * k + 4))) (kwV hg mfX10_learn wt_730 ⟨Nat.le_of_ble_eq_true rfl, Nat.le_of_ble_eq_true rfl⟩) (preVI hK hXI (hXI.recv hK)) rfl rfl hl.1 rfl (lv_room (Nat.le_of_ble_eq_true rfl)) dL_law_957 ⟨Nat.le_of_ble_eq_true rfl, Nat.le_of_ble_eq_true rfl⟩) hS (fun q _ h => ad_A hAx hA (by decide) hS q h) (ad_A hAx hA (by decide) hS) (fun r1 u1 t1 H1 locs1 ht1 hv1 w1 hB1 hz1 hk1 hS => ?_)
  have hMI := hMI.kept (fr_ad (lo := 0) (hi := 112) hi (by decide) (by decide) (by decide) hk1)
  have hXI : X10I dC dI G ax T Y fa W0 W1 W2 N B N1 B1 N2 B2 K (if ((0 ≤ (xs (5 * k + 1)).toInt ∧ (xs (5 * k + 1)).toInt < ((N : Nat) : Int)) ∧ ((xs (5 * k + 2)).toInt = -4 ∨ (0 ≤ (xs (5 * k + 2)).toInt ∧ (xs (5 * k + 2)).toInt < ((B : Nat) : Int))) ∧ (0 ≤ (xs (5 * k + 3)).toInt ∧ (xs (5 * k + 3)).toInt < ((B : Nat) : Int)) ∧ 0 ≤ (xs (5 * k + 4)).toInt ∧ (xs (5 * k + 4)).toInt ≤ 20) ∧ S < 8 then S + 1 else S) M E Z H1 := by rw [← ht1]; exact hB1
  refine W.widen (k := 129) (n := 4562) (by omega) (by omega) ?_
  refine lv_pop hx hb dL_law_960 rfl ?_
  refine lv_aload_n hx hb dL_law_961 rfl (lv_at hl 1 rfl) ?_
  refine lv_aload_n hx hb dL_law_962 rfl (lv_at hl 3 rfl) ?_
  refine lv_iload_n hx hb dL_law_963 rfl (lv_at hl 0 rfl) ?_
  refine lv_iconst (v := 1) hx hb dL_law_964 (by decide) ?_
  refine lv_iadd hx hb dL_law_965 ?_
  refine lv_cg (y := nI (5 * k + 1)) (by rw [show (1 : Int32) = nI 1 from rfl]; exact nI_add _ _) ?_
  refine va_sld hx hb hX hbl hbA hS (vp_in_nI (by omega) (by omega)) dL_law_966 ?_
  refine lv_cg (y := xs (5 * k + 1)) (by rw [nI_clamp (by omega)]) ?_
  refine lv_aload_n hx hb dL_law_967 rfl (lv_at hl 3 rfl) ?_
  refine lv_iload_n hx hb dL_law_968 rfl (lv_at hl 0 rfl) ?_
  refine lv_iconst (v := 2) hx hb dL_law_969 (by decide) ?_
  refine lv_iadd hx hb dL_law_970 ?_
  refine lv_cg (y := nI (5 * k + 2)) (by rw [show (2 : Int32) = nI 2 from rfl]; exact nI_add _ _) ?_
  refine va_sld hx hb hX hbl hbA hS (vp_in_nI (by omega) (by omega)) dL_law_971 ?_
  refine lv_cg (y := xs (5 * k + 2)) (by rw [nI_clamp (by omega)]) ?_
  refine lv_aload_n hx hb dL_law_972 rfl (lv_at hl 3 rfl) ?_
  refine lv_iload_n hx hb dL_law_973 rfl (lv_at hl 0 rfl) ?_
  refine lv_iconst (v := 3) hx hb dL_law_974 (by decide) ?_
  refine lv_iadd hx hb dL_law_975 ?_
  refine lv_cg (y := nI (5 * k + 3)) (by rw [show (3 : Int32) = nI 3 from rfl]; exact nI_add _ _) ?_
  refine va_sld hx hb hX hbl hbA hS (vp_in_nI (by omega) (by omega)) dL_law_976 ?_
  refine lv_cg (y := xs (5 * k + 3)) (by rw [nI_clamp (by omega)]) ?_
  refine lv_aload_n hx hb dL_law_977 rfl (lv_at hl 3 rfl) ?_
  refine lv_iload_n hx hb dL_law_978 rfl (lv_at hl 0 rfl) ?_
  refine lv_iconst (v := 4) hx hb dL_law_979 (by decide) ?_
  refine lv_iadd hx hb dL_law_980 ?_
  refine lv_cg (y := nI (5 * k + 4)) (by rw [show (4 : Int32) = nI 4 from rfl]; exact nI_add _ _) ?_
  refine va_sld hx hb hX hbl hbA hS (vp_in_nI (by omega) (by omega)) dL_law_981 ?_
  refine lv_cg (y := xs (5 * k + 4)) (by rw [nI_clamp (by omega)]) ?_
  refine va_calli (va_runV (As := [.int (xs (5 * k + 1)), .int (xs (5 * k + 2)), .int (xs (5 * k + 3)), .int (xs (5 * k + 4))]) (rest := []) ⟨hx, hb, hml, hown, hg⟩ (k_X11_learnE l dC dI G _ ax hi T Y fa W0 W1 W2 N B N1 B1 N2 B2 K S M E Z (xs (5 * k + 1)) (xs (5 * k + 2)) (xs (5 * k + 3)) (xs (5 * k + 4))) (kwV hg mfX11_learn wt_1196 ⟨Nat.le_of_ble_eq_true rfl, Nat.le_of_ble_eq_true rfl⟩) (preVI hK hMI (hMI.recv hK)) rfl rfl hl.1 rfl (lv_room (Nat.le_of_ble_eq_true rfl)) dL_law_982 ⟨Nat.le_of_ble_eq_true rfl, Nat.le_of_ble_eq_true rfl⟩) hS (fun q _ h => ad_A hAx hA (by decide) hS q h) (ad_A hAx hA (by decide) hS) (fun r2 u2 t2 H2 locs2 ht2 hv2 w2 hB2 hz2 hk2 hS => ?_)
  have hXI := hXI.kept (fr_ad (lo := 112) (hi := 129) hi (by decide) (by decide) (by decide) hk2)
  have hMI : X11I dC dI G ax T Y fa W0 W1 W2 N B N1 B1 N2 B2 K (if ((0 ≤ (xs (5 * k + 1)).toInt ∧ (xs (5 * k + 1)).toInt < ((N : Nat) : Int)) ∧ ((xs (5 * k + 2)).toInt = -4 ∨ (0 ≤ (xs (5 * k + 2)).toInt ∧ (xs (5 * k + 2)).toInt < ((B : Nat) : Int))) ∧ (0 ≤ (xs (5 * k + 3)).toInt ∧ (xs (5 * k + 3)).toInt < ((B : Nat) : Int)) ∧ 0 ≤ (xs (5 * k + 4)).toInt ∧ (xs (5 * k + 4)).toInt ≤ 20) ∧ S < 8 then S + 1 else S) M E Z H2 := by rw [← ht2]; exact hB2
  refine W.widen (k := 129) (n := 4562) (by omega) (by omega) ?_
  refine lv_pop hx hb dL_law_985 rfl ?_
  refine lv_goto (tgt := 1381) hx hb dL_law_986 (by decide) ?_
  exact kk _ _ ⟨_, _, _, _, _, _, _, _, _, _, _, _, _, _, _, _, _, hXI, hMI⟩ hS

set_option maxHeartbeats 1000000 in
set_option maxRecDepth 100000 in
theorem lc_forget {p : Program} {l : Launch} {e : Env} {s : State} {m : MethodId} {below : List Frame} {meth : Method} {c : Code} {b L : Nat} {xs : Nat → Int32} {dC : Nat → ClassId} {dI : Nat → Nat → Nat} {G : Nat → ClassId} {ax adK adV : Nat → Nat} {A : Nat → Prop} {Q : State → Prop} (C1 : lw_C p s m c b L xs dC dI G ax adK adV A) {k : Nat} (hk : 5 * k + 5 ≤ L) (hL : L ≤ 2560) {H : Heap} {locs : List Loc} {ls : Array Slot} (hI : LI dC dI G ax H) (hS : va_S A s.heap H locs) (hl : lv_has ls 4 [(3, .int (nI (5 * k))), (2, .ref (ax 112)), (1, .ref (ax 0)), (0, .ref b)]) (kk : ∀ (H : Heap) (locs : List Loc), LI dC dI G ax H → va_S A s.heap H locs → W p l e room_1 s m #[Value.ref b] below meth c H locs 129 4562 Q (F0 m 1381 ls [])) : W p l e room_1 s m #[Value.ref b] below meth c H locs 129 4562 Q (F0 m 989 ls []) := by
  obtain ⟨hx, hb, hml, hown, hg, hX, hbl, hbA, hK, hi, hAx, hA, hSS⟩ := C1
  obtain ⟨T, Y, fa, W0, W1, W2, N, B, N1, B1, N2, B2, K, S, M, E, Z, hXI, hMI⟩ := hI
  refine lv_aload_n hx hb dL_law_989 rfl (lv_at hl 2 rfl) ?_
  refine lv_aload_n hx hb dL_law_990 rfl (lv_at hl 3 rfl) ?_
  refine lv_iload_n hx hb dL_law_991 rfl (lv_at hl 0 rfl) ?_
  refine lv_iconst (v := 1) hx hb dL_law_992 (by decide) ?_
  refine lv_iadd hx hb dL_law_993 ?_
  refine lv_cg (y := nI (5 * k + 1)) (by rw [show (1 : Int32) = nI 1 from rfl]; exact nI_add _ _) ?_
  refine va_sld hx hb hX hbl hbA hS (vp_in_nI (by omega) (by omega)) dL_law_994 ?_
  refine lv_cg (y := xs (5 * k + 1)) (by rw [nI_clamp (by omega)]) ?_
  refine va_calli (va_runV (As := [.int (xs (5 * k + 1))]) (rest := []) ⟨hx, hb, hml, hown, hg⟩ (k_X10_forgetE l dC dI G _ ax hi T Y fa W0 W1 W2 N B N1 B1 N2 B2 K S M E Z (xs (5 * k + 1))) (kwV hg mfX10_forget wt_738 ⟨Nat.le_of_ble_eq_true rfl, Nat.le_of_ble_eq_true rfl⟩) (preVI hK hXI (hXI.recv hK)) rfl rfl hl.1 rfl (lv_room (Nat.le_of_ble_eq_true rfl)) dL_law_995 ⟨Nat.le_of_ble_eq_true rfl, Nat.le_of_ble_eq_true rfl⟩) hS (fun q _ h => ad_A hAx hA (by decide) hS q h) (ad_A hAx hA (by decide) hS) (fun r1 u1 t1 H1 locs1 ht1 hv1 w1 hB1 hz1 hk1 hS => ?_)
  have hMI := hMI.kept (fr_ad (lo := 0) (hi := 112) hi (by decide) (by decide) (by decide) hk1)
  have hXI : X10I dC dI G ax T Y fa W0 W1 W2 N B N1 B1 N2 B2 K (if 0 ≤ (xs (5 * k + 1)).toInt ∧ (xs (5 * k + 1)).toInt ≤ ((S : Nat) : Int) then (xs (5 * k + 1)).toNatClampNeg else S) M E Z H1 := by rw [← ht1]; exact hB1
  refine W.widen (k := 129) (n := 4562) (by omega) (by omega) ?_
  refine lv_pop hx hb dL_law_998 rfl ?_
  refine lv_aload_n hx hb dL_law_999 rfl (lv_at hl 1 rfl) ?_
  refine lv_aload_n hx hb dL_law_1000 rfl (lv_at hl 3 rfl) ?_
  refine lv_iload_n hx hb dL_law_1001 rfl (lv_at hl 0 rfl) ?_
  refine lv_iconst (v := 1) hx hb dL_law_1002 (by decide) ?_
  refine lv_iadd hx hb dL_law_1003 ?_
  refine lv_cg (y := nI (5 * k + 1)) (by rw [show (1 : Int32) = nI 1 from rfl]; exact nI_add _ _) ?_
  refine va_sld hx hb hX hbl hbA hS (vp_in_nI (by omega) (by omega)) dL_law_1004 ?_
  refine lv_cg (y := xs (5 * k + 1)) (by rw [nI_clamp (by omega)]) ?_
  refine va_calli (va_runV (As := [.int (xs (5 * k + 1))]) (rest := []) ⟨hx, hb, hml, hown, hg⟩ (k_X11_forgetE l dC dI G _ ax hi T Y fa W0 W1 W2 N B N1 B1 N2 B2 K S M E Z (xs (5 * k + 1))) (kwV hg mfX11_forget wt_1200 ⟨Nat.le_of_ble_eq_true rfl, Nat.le_of_ble_eq_true rfl⟩) (preVI hK hMI (hMI.recv hK)) rfl rfl hl.1 rfl (lv_room (Nat.le_of_ble_eq_true rfl)) dL_law_1005 ⟨Nat.le_of_ble_eq_true rfl, Nat.le_of_ble_eq_true rfl⟩) hS (fun q _ h => ad_A hAx hA (by decide) hS q h) (ad_A hAx hA (by decide) hS) (fun r2 u2 t2 H2 locs2 ht2 hv2 w2 hB2 hz2 hk2 hS => ?_)
  have hXI := hXI.kept (fr_ad (lo := 112) (hi := 129) hi (by decide) (by decide) (by decide) hk2)
  have hMI : X11I dC dI G ax T Y fa W0 W1 W2 N B N1 B1 N2 B2 K (if 0 ≤ (xs (5 * k + 1)).toInt ∧ (xs (5 * k + 1)).toInt ≤ ((S : Nat) : Int) then (xs (5 * k + 1)).toNatClampNeg else S) M E Z H2 := by rw [← ht2]; exact hB2
  refine W.widen (k := 129) (n := 4562) (by omega) (by omega) ?_
  refine lv_pop hx hb dL_law_1008 rfl ?_
  refine lv_goto (tgt := 1381) hx hb dL_law_1009 (by decide) ?_
  exact kk _ _ ⟨_, _, _, _, _, _, _, _, _, _, _, _, _, _, _, _, _, hXI, hMI⟩ hS

set_option maxHeartbeats 1000000 in
set_option maxRecDepth 100000 in
theorem lc_steps {p : Program} {l : Launch} {e : Env} {s : State} {m : MethodId} {below : List Frame} {meth : Method} {c : Code} {b L : Nat} {xs : Nat → Int32} {dC : Nat → ClassId} {dI : Nat → Nat → Nat} {G : Nat → ClassId} {ax adK adV : Nat → Nat} {A : Nat → Prop} {Q : State → Prop} (C1 : lw_C p s m c b L xs dC dI G ax adK adV A) {k : Nat} (hk : 5 * k + 5 ≤ L) (hL : L ≤ 2560) {H : Heap} {locs : List Loc} {ls : Array Slot} (hI : LI dC dI G ax H) (hS : va_S A s.heap H locs) (hl : lv_has ls 4 [(3, .int (nI (5 * k))), (2, .ref (ax 112)), (1, .ref (ax 0)), (0, .ref b)]) (kk : ∀ (H : Heap) (locs : List Loc), LI dC dI G ax H → va_S A s.heap H locs → W p l e room_1 s m #[Value.ref b] below meth c H locs 129 4562 Q (F0 m 1381 ls [])) : W p l e room_1 s m #[Value.ref b] below meth c H locs 129 4562 Q (F0 m 1012 ls []) := by
  obtain ⟨hx, hb, hml, hown, hg, hX, hbl, hbA, hK, hi, hAx, hA, hSS⟩ := C1
  obtain ⟨T, Y, fa, W0, W1, W2, N, B, N1, B1, N2, B2, K, S, M, E, Z, hXI, hMI⟩ := hI
  refine lv_aload_n hx hb dL_law_1012 rfl (lv_at hl 2 rfl) ?_
  refine lv_aload_n hx hb dL_law_1013 rfl (lv_at hl 3 rfl) ?_
  refine lv_iload_n hx hb dL_law_1014 rfl (lv_at hl 0 rfl) ?_
  refine lv_iconst (v := 1) hx hb dL_law_1015 (by decide) ?_
  refine lv_iadd hx hb dL_law_1016 ?_
  refine lv_cg (y := nI (5 * k + 1)) (by rw [show (1 : Int32) = nI 1 from rfl]; exact nI_add _ _) ?_
  refine va_sld hx hb hX hbl hbA hS (vp_in_nI (by omega) (by omega)) dL_law_1017 ?_
  refine lv_cg (y := xs (5 * k + 1)) (by rw [nI_clamp (by omega)]) ?_
  refine lv_aload_n hx hb dL_law_1018 rfl (lv_at hl 3 rfl) ?_
  refine lv_iload_n hx hb dL_law_1019 rfl (lv_at hl 0 rfl) ?_
  refine lv_iconst (v := 2) hx hb dL_law_1020 (by decide) ?_
  refine lv_iadd hx hb dL_law_1021 ?_
  refine lv_cg (y := nI (5 * k + 2)) (by rw [show (2 : Int32) = nI 2 from rfl]; exact nI_add _ _) ?_
  refine va_sld hx hb hX hbl hbA hS (vp_in_nI (by omega) (by omega)) dL_law_1022 ?_
  refine lv_cg (y := xs (5 * k + 2)) (by rw [nI_clamp (by omega)]) ?_
  refine va_calli (va_runV (As := [.int (xs (5 * k + 1)), .int (xs (5 * k + 2))]) (rest := []) ⟨hx, hb, hml, hown, hg⟩ (k_X10_steps l dC dI G _ ax hi T Y fa W0 W1 W2 N B N1 B1 N2 B2 K S M E Z (xs (5 * k + 1)) (xs (5 * k + 2))) (kwV hg mfX10_steps wt_742 ⟨Nat.le_of_ble_eq_true rfl, Nat.le_of_ble_eq_true rfl⟩) (preVI hK hXI (hXI.recv hK)) rfl rfl hl.1 rfl (lv_room (Nat.le_of_ble_eq_true rfl)) dL_law_1023 ⟨Nat.le_of_ble_eq_true rfl, Nat.le_of_ble_eq_true rfl⟩) hS (fun q _ h => ad_A hAx hA (by decide) hS q h) (ad_A hAx hA (by decide) hS) (fun r1 u1 t1 H1 locs1 ht1 hv1 w1 hB1 hz1 hk1 hS => ?_)
  have hMI := hMI.kept (fr_ad (lo := 0) (hi := 112) hi (by decide) (by decide) (by decide) hk1)
  have hXI : X10I dC dI G ax T Y fa W0 W1 W2 N B N1 B1 N2 B2 K S M E Z H1 := by rw [← ht1]; exact hB1
  refine W.widen (k := 129) (n := 4562) (by omega) (by omega) ?_
  refine lv_pop hx hb dL_law_1026 rfl ?_
  refine lv_aload_n hx hb dL_law_1027 rfl (lv_at hl 1 rfl) ?_
  refine lv_aload_n hx hb dL_law_1028 rfl (lv_at hl 3 rfl) ?_
  refine lv_iload_n hx hb dL_law_1029 rfl (lv_at hl 0 rfl) ?_
  refine lv_iconst (v := 1) hx hb dL_law_1030 (by decide) ?_
  refine lv_iadd hx hb dL_law_1031 ?_
  refine lv_cg (y := nI (5 * k + 1)) (by rw [show (1 : Int32) = nI 1 from rfl]; exact nI_add _ _) ?_
  refine va_sld hx hb hX hbl hbA hS (vp_in_nI (by omega) (by omega)) dL_law_1032 ?_
  refine lv_cg (y := xs (5 * k + 1)) (by rw [nI_clamp (by omega)]) ?_
  refine lv_aload_n hx hb dL_law_1033 rfl (lv_at hl 3 rfl) ?_
  refine lv_iload_n hx hb dL_law_1034 rfl (lv_at hl 0 rfl) ?_
  refine lv_iconst (v := 2) hx hb dL_law_1035 (by decide) ?_
  refine lv_iadd hx hb dL_law_1036 ?_
  refine lv_cg (y := nI (5 * k + 2)) (by rw [show (2 : Int32) = nI 2 from rfl]; exact nI_add _ _) ?_
  refine va_sld hx hb hX hbl hbA hS (vp_in_nI (by omega) (by omega)) dL_law_1037 ?_
  refine lv_cg (y := xs (5 * k + 2)) (by rw [nI_clamp (by omega)]) ?_
  refine va_calli (va_runV (As := [.int (xs (5 * k + 1)), .int (xs (5 * k + 2))]) (rest := []) ⟨hx, hb, hml, hown, hg⟩ (k_X11_stepsW l dC dI G _ ax hi T Y fa W0 W1 W2 N B N1 B1 N2 B2 K S M E Z (xs (5 * k + 1)) (xs (5 * k + 2))) (kwV hg mfX11_steps wt_1204 ⟨Nat.le_of_ble_eq_true rfl, Nat.le_of_ble_eq_true rfl⟩) (preVI hK hMI (hMI.recv hK)) rfl rfl hl.1 rfl (lv_room (Nat.le_of_ble_eq_true rfl)) dL_law_1038 ⟨Nat.le_of_ble_eq_true rfl, Nat.le_of_ble_eq_true rfl⟩) hS (fun q _ h => ad_A hAx hA (by decide) hS q h) (ad_A hAx hA (by decide) hS) (fun r2 u2 t2 H2 locs2 ht2 hv2 w2 hB2 hz2 hk2 hS => ?_)
  have hXI := hXI.kept (fr_ad (lo := 112) (hi := 129) hi (by decide) (by decide) (by decide) hk2)
  have hMI : X11I dC dI G ax T Y fa W0 W1 W2 N B N1 B1 N2 B2 K S M E Z H2 := by rw [← ht2]; exact hB2
  refine W.widen (k := 129) (n := 4562) (by omega) (by omega) ?_
  refine lv_pop hx hb dL_law_1041 rfl ?_
  refine lv_goto (tgt := 1381) hx hb dL_law_1042 (by decide) ?_
  exact kk _ _ ⟨_, _, _, _, _, _, _, _, _, _, _, _, _, _, _, _, _, hXI, hMI⟩ hS

set_option maxHeartbeats 1000000 in
set_option maxRecDepth 100000 in
theorem lc_mark {p : Program} {l : Launch} {e : Env} {s : State} {m : MethodId} {below : List Frame} {meth : Method} {c : Code} {b L : Nat} {xs : Nat → Int32} {dC : Nat → ClassId} {dI : Nat → Nat → Nat} {G : Nat → ClassId} {ax adK adV : Nat → Nat} {A : Nat → Prop} {Q : State → Prop} (C1 : lw_C p s m c b L xs dC dI G ax adK adV A) {k : Nat} (hk : 5 * k + 5 ≤ L) (hL : L ≤ 2560) {H : Heap} {locs : List Loc} {ls : Array Slot} (hI : LI dC dI G ax H) (hS : va_S A s.heap H locs) (hl : lv_has ls 4 [(3, .int (nI (5 * k))), (2, .ref (ax 112)), (1, .ref (ax 0)), (0, .ref b)]) (kk : ∀ (H : Heap) (locs : List Loc), LI dC dI G ax H → va_S A s.heap H locs → W p l e room_1 s m #[Value.ref b] below meth c H locs 129 4562 Q (F0 m 1381 ls [])) : W p l e room_1 s m #[Value.ref b] below meth c H locs 129 4562 Q (F0 m 1045 ls []) := by
  obtain ⟨hx, hb, hml, hown, hg, hX, hbl, hbA, hK, hi, hAx, hA, hSS⟩ := C1
  obtain ⟨T, Y, fa, W0, W1, W2, N, B, N1, B1, N2, B2, K, S, M, E, Z, hXI, hMI⟩ := hI
  refine lv_aload_n hx hb dL_law_1045 rfl (lv_at hl 2 rfl) ?_
  refine lv_aload_n hx hb dL_law_1046 rfl (lv_at hl 3 rfl) ?_
  refine lv_iload_n hx hb dL_law_1047 rfl (lv_at hl 0 rfl) ?_
  refine lv_iconst (v := 1) hx hb dL_law_1048 (by decide) ?_
  refine lv_iadd hx hb dL_law_1049 ?_
  refine lv_cg (y := nI (5 * k + 1)) (by rw [show (1 : Int32) = nI 1 from rfl]; exact nI_add _ _) ?_
  refine va_sld hx hb hX hbl hbA hS (vp_in_nI (by omega) (by omega)) dL_law_1050 ?_
  refine lv_cg (y := xs (5 * k + 1)) (by rw [nI_clamp (by omega)]) ?_
  refine lv_aload_n hx hb dL_law_1051 rfl (lv_at hl 3 rfl) ?_
  refine lv_iload_n hx hb dL_law_1052 rfl (lv_at hl 0 rfl) ?_
  refine lv_iconst (v := 2) hx hb dL_law_1053 (by decide) ?_
  refine lv_iadd hx hb dL_law_1054 ?_
  refine lv_cg (y := nI (5 * k + 2)) (by rw [show (2 : Int32) = nI 2 from rfl]; exact nI_add _ _) ?_
  refine va_sld hx hb hX hbl hbA hS (vp_in_nI (by omega) (by omega)) dL_law_1055 ?_
  refine lv_cg (y := xs (5 * k + 2)) (by rw [nI_clamp (by omega)]) ?_
  refine va_calli (va_runV (As := [.int (xs (5 * k + 1)), .int (xs (5 * k + 2))]) (rest := []) ⟨hx, hb, hml, hown, hg⟩ (k_X10_markE l dC dI G _ ax hi T Y fa W0 W1 W2 N B N1 B1 N2 B2 K S M E Z (xs (5 * k + 1)) (xs (5 * k + 2))) (kwV hg mfX10_mark wt_751 ⟨Nat.le_of_ble_eq_true rfl, Nat.le_of_ble_eq_true rfl⟩) (preVI hK hXI (hXI.recv hK)) rfl rfl hl.1 rfl (lv_room (Nat.le_of_ble_eq_true rfl)) dL_law_1056 ⟨Nat.le_of_ble_eq_true rfl, Nat.le_of_ble_eq_true rfl⟩) hS (fun q _ h => ad_A hAx hA (by decide) hS q h) (ad_A hAx hA (by decide) hS) (fun r1 u1 t1 H1 locs1 ht1 hv1 w1 hB1 hz1 hk1 hS => ?_)
  have hMI := hMI.kept (fr_ad (lo := 0) (hi := 112) hi (by decide) (by decide) (by decide) hk1)
  have hXI : X10I dC dI G ax T Y fa W0 W1 W2 N B N1 B1 N2 B2 K S (if ((0 ≤ (xs (5 * k + 1)).toInt ∧ (xs (5 * k + 1)).toInt < ((N : Nat) : Int)) ∧ 0 ≤ (xs (5 * k + 2)).toInt ∧ (xs (5 * k + 2)).toInt ≤ 9) ∧ M < 6 then M + 1 else M) E Z H1 := by rw [← ht1]; exact hB1
  refine W.widen (k := 129) (n := 4562) (by omega) (by omega) ?_
  refine lv_pop hx hb dL_law_1059 rfl ?_
  refine lv_aload_n hx hb dL_law_1060 rfl (lv_at hl 1 rfl) ?_
  refine lv_aload_n hx hb dL_law_1061 rfl (lv_at hl 3 rfl) ?_
  refine lv_iload_n hx hb dL_law_1062 rfl (lv_at hl 0 rfl) ?_
  refine lv_iconst (v := 1) hx hb dL_law_1063 (by decide) ?_
  refine lv_iadd hx hb dL_law_1064 ?_
  refine lv_cg (y := nI (5 * k + 1)) (by rw [show (1 : Int32) = nI 1 from rfl]; exact nI_add _ _) ?_
  refine va_sld hx hb hX hbl hbA hS (vp_in_nI (by omega) (by omega)) dL_law_1065 ?_
  refine lv_cg (y := xs (5 * k + 1)) (by rw [nI_clamp (by omega)]) ?_
  refine lv_aload_n hx hb dL_law_1066 rfl (lv_at hl 3 rfl) ?_
  refine lv_iload_n hx hb dL_law_1067 rfl (lv_at hl 0 rfl) ?_
  refine lv_iconst (v := 2) hx hb dL_law_1068 (by decide) ?_
  refine lv_iadd hx hb dL_law_1069 ?_
  refine lv_cg (y := nI (5 * k + 2)) (by rw [show (2 : Int32) = nI 2 from rfl]; exact nI_add _ _) ?_
  refine va_sld hx hb hX hbl hbA hS (vp_in_nI (by omega) (by omega)) dL_law_1070 ?_
  refine lv_cg (y := xs (5 * k + 2)) (by rw [nI_clamp (by omega)]) ?_
  refine va_calli (va_runV (As := [.int (xs (5 * k + 1)), .int (xs (5 * k + 2))]) (rest := []) ⟨hx, hb, hml, hown, hg⟩ (k_X11_markE l dC dI G _ ax hi T Y fa W0 W1 W2 N B N1 B1 N2 B2 K S M E Z (xs (5 * k + 1)) (xs (5 * k + 2))) (kwV hg mfX11_mark wt_1208 ⟨Nat.le_of_ble_eq_true rfl, Nat.le_of_ble_eq_true rfl⟩) (preVI hK hMI (hMI.recv hK)) rfl rfl hl.1 rfl (lv_room (Nat.le_of_ble_eq_true rfl)) dL_law_1071 ⟨Nat.le_of_ble_eq_true rfl, Nat.le_of_ble_eq_true rfl⟩) hS (fun q _ h => ad_A hAx hA (by decide) hS q h) (ad_A hAx hA (by decide) hS) (fun r2 u2 t2 H2 locs2 ht2 hv2 w2 hB2 hz2 hk2 hS => ?_)
  have hXI := hXI.kept (fr_ad (lo := 112) (hi := 129) hi (by decide) (by decide) (by decide) hk2)
  have hMI : X11I dC dI G ax T Y fa W0 W1 W2 N B N1 B1 N2 B2 K S (if ((0 ≤ (xs (5 * k + 1)).toInt ∧ (xs (5 * k + 1)).toInt < ((N : Nat) : Int)) ∧ 0 ≤ (xs (5 * k + 2)).toInt ∧ (xs (5 * k + 2)).toInt ≤ 9) ∧ M < 6 then M + 1 else M) E Z H2 := by rw [← ht2]; exact hB2
  refine W.widen (k := 129) (n := 4562) (by omega) (by omega) ?_
  refine lv_pop hx hb dL_law_1074 rfl ?_
  refine lv_goto (tgt := 1381) hx hb dL_law_1075 (by decide) ?_
  exact kk _ _ ⟨_, _, _, _, _, _, _, _, _, _, _, _, _, _, _, _, _, hXI, hMI⟩ hS

set_option maxHeartbeats 1000000 in
set_option maxRecDepth 100000 in
theorem lc_wipe {p : Program} {l : Launch} {e : Env} {s : State} {m : MethodId} {below : List Frame} {meth : Method} {c : Code} {b L : Nat} {xs : Nat → Int32} {dC : Nat → ClassId} {dI : Nat → Nat → Nat} {G : Nat → ClassId} {ax adK adV : Nat → Nat} {A : Nat → Prop} {Q : State → Prop} (C1 : lw_C p s m c b L xs dC dI G ax adK adV A) {k : Nat} (hk : 5 * k + 5 ≤ L) (hL : L ≤ 2560) {H : Heap} {locs : List Loc} {ls : Array Slot} (hI : LI dC dI G ax H) (hS : va_S A s.heap H locs) (hl : lv_has ls 4 [(3, .int (nI (5 * k))), (2, .ref (ax 112)), (1, .ref (ax 0)), (0, .ref b)]) (kk : ∀ (H : Heap) (locs : List Loc), LI dC dI G ax H → va_S A s.heap H locs → W p l e room_1 s m #[Value.ref b] below meth c H locs 129 4562 Q (F0 m 1381 ls [])) : W p l e room_1 s m #[Value.ref b] below meth c H locs 129 4562 Q (F0 m 1078 ls []) := by
  obtain ⟨hx, hb, hml, hown, hg, hX, hbl, hbA, hK, hi, hAx, hA, hSS⟩ := C1
  obtain ⟨T, Y, fa, W0, W1, W2, N, B, N1, B1, N2, B2, K, S, M, E, Z, hXI, hMI⟩ := hI
  refine lv_aload_n hx hb dL_law_1078 rfl (lv_at hl 2 rfl) ?_
  refine lv_aload_n hx hb dL_law_1079 rfl (lv_at hl 3 rfl) ?_
  refine lv_iload_n hx hb dL_law_1080 rfl (lv_at hl 0 rfl) ?_
  refine lv_iconst (v := 1) hx hb dL_law_1081 (by decide) ?_
  refine lv_iadd hx hb dL_law_1082 ?_
  refine lv_cg (y := nI (5 * k + 1)) (by rw [show (1 : Int32) = nI 1 from rfl]; exact nI_add _ _) ?_
  refine va_sld hx hb hX hbl hbA hS (vp_in_nI (by omega) (by omega)) dL_law_1083 ?_
  refine lv_cg (y := xs (5 * k + 1)) (by rw [nI_clamp (by omega)]) ?_
  refine va_calli (va_runV (As := [.int (xs (5 * k + 1))]) (rest := []) ⟨hx, hb, hml, hown, hg⟩ (k_X10_wipeE l dC dI G _ ax hi T Y fa W0 W1 W2 N B N1 B1 N2 B2 K S M E Z (xs (5 * k + 1))) (kwV hg mfX10_wipe wt_759 ⟨Nat.le_of_ble_eq_true rfl, Nat.le_of_ble_eq_true rfl⟩) (preVI hK hXI (hXI.recv hK)) rfl rfl hl.1 rfl (lv_room (Nat.le_of_ble_eq_true rfl)) dL_law_1084 ⟨Nat.le_of_ble_eq_true rfl, Nat.le_of_ble_eq_true rfl⟩) hS (fun q _ h => ad_A hAx hA (by decide) hS q h) (ad_A hAx hA (by decide) hS) (fun r1 u1 t1 H1 locs1 ht1 hv1 w1 hB1 hz1 hk1 hS => ?_)
  have hMI := hMI.kept (fr_ad (lo := 0) (hi := 112) hi (by decide) (by decide) (by decide) hk1)
  have hXI : X10I dC dI G ax T Y fa W0 W1 W2 N B N1 B1 N2 B2 K S (if 0 ≤ (xs (5 * k + 1)).toInt ∧ (xs (5 * k + 1)).toInt ≤ ((M : Nat) : Int) then (xs (5 * k + 1)).toNatClampNeg else M) E Z H1 := by rw [← ht1]; exact hB1
  refine W.widen (k := 129) (n := 4562) (by omega) (by omega) ?_
  refine lv_pop hx hb dL_law_1087 rfl ?_
  refine lv_aload_n hx hb dL_law_1088 rfl (lv_at hl 1 rfl) ?_
  refine lv_aload_n hx hb dL_law_1089 rfl (lv_at hl 3 rfl) ?_
  refine lv_iload_n hx hb dL_law_1090 rfl (lv_at hl 0 rfl) ?_
  refine lv_iconst (v := 1) hx hb dL_law_1091 (by decide) ?_
  refine lv_iadd hx hb dL_law_1092 ?_
  refine lv_cg (y := nI (5 * k + 1)) (by rw [show (1 : Int32) = nI 1 from rfl]; exact nI_add _ _) ?_
  refine va_sld hx hb hX hbl hbA hS (vp_in_nI (by omega) (by omega)) dL_law_1093 ?_
  refine lv_cg (y := xs (5 * k + 1)) (by rw [nI_clamp (by omega)]) ?_
  refine va_calli (va_runV (As := [.int (xs (5 * k + 1))]) (rest := []) ⟨hx, hb, hml, hown, hg⟩ (k_X11_wipeE l dC dI G _ ax hi T Y fa W0 W1 W2 N B N1 B1 N2 B2 K S M E Z (xs (5 * k + 1))) (kwV hg mfX11_wipe wt_1212 ⟨Nat.le_of_ble_eq_true rfl, Nat.le_of_ble_eq_true rfl⟩) (preVI hK hMI (hMI.recv hK)) rfl rfl hl.1 rfl (lv_room (Nat.le_of_ble_eq_true rfl)) dL_law_1094 ⟨Nat.le_of_ble_eq_true rfl, Nat.le_of_ble_eq_true rfl⟩) hS (fun q _ h => ad_A hAx hA (by decide) hS q h) (ad_A hAx hA (by decide) hS) (fun r2 u2 t2 H2 locs2 ht2 hv2 w2 hB2 hz2 hk2 hS => ?_)
  have hXI := hXI.kept (fr_ad (lo := 112) (hi := 129) hi (by decide) (by decide) (by decide) hk2)
  have hMI : X11I dC dI G ax T Y fa W0 W1 W2 N B N1 B1 N2 B2 K S (if 0 ≤ (xs (5 * k + 1)).toInt ∧ (xs (5 * k + 1)).toInt ≤ ((M : Nat) : Int) then (xs (5 * k + 1)).toNatClampNeg else M) E Z H2 := by rw [← ht2]; exact hB2
  refine W.widen (k := 129) (n := 4562) (by omega) (by omega) ?_
  refine lv_pop hx hb dL_law_1097 rfl ?_
  refine lv_goto (tgt := 1381) hx hb dL_law_1098 (by decide) ?_
  exact kk _ _ ⟨_, _, _, _, _, _, _, _, _, _, _, _, _, _, _, _, _, hXI, hMI⟩ hS

set_option maxHeartbeats 1000000 in
set_option maxRecDepth 100000 in
theorem lc_paths {p : Program} {l : Launch} {e : Env} {s : State} {m : MethodId} {below : List Frame} {meth : Method} {c : Code} {b L : Nat} {xs : Nat → Int32} {dC : Nat → ClassId} {dI : Nat → Nat → Nat} {G : Nat → ClassId} {ax adK adV : Nat → Nat} {A : Nat → Prop} {Q : State → Prop} (C1 : lw_C p s m c b L xs dC dI G ax adK adV A) {k : Nat} (hk : 5 * k + 5 ≤ L) (hL : L ≤ 2560) {H : Heap} {locs : List Loc} {ls : Array Slot} (hI : LI dC dI G ax H) (hS : va_S A s.heap H locs) (hl : lv_has ls 4 [(3, .int (nI (5 * k))), (2, .ref (ax 112)), (1, .ref (ax 0)), (0, .ref b)]) (kk : ∀ (H : Heap) (locs : List Loc), LI dC dI G ax H → va_S A s.heap H locs → W p l e room_1 s m #[Value.ref b] below meth c H locs 129 4562 Q (F0 m 1381 ls [])) : W p l e room_1 s m #[Value.ref b] below meth c H locs 129 4562 Q (F0 m 1101 ls []) := by
  obtain ⟨hx, hb, hml, hown, hg, hX, hbl, hbA, hK, hi, hAx, hA, hSS⟩ := C1
  obtain ⟨T, Y, fa, W0, W1, W2, N, B, N1, B1, N2, B2, K, S, M, E, Z, hXI, hMI⟩ := hI
  refine lv_aload_n hx hb dL_law_1101 rfl (lv_at hl 2 rfl) ?_
  refine va_calli (va_runV (As := []) (rest := []) ⟨hx, hb, hml, hown, hg⟩ (k_X10_paths l dC dI G _ ax hi T Y fa W0 W1 W2 N B N1 B1 N2 B2 K S M E Z) (kwV hg mfX10_paths wt_763 ⟨Nat.le_of_ble_eq_true rfl, Nat.le_of_ble_eq_true rfl⟩) (preVI hK hXI (hXI.recv hK)) rfl rfl hl.1 rfl (lv_room (Nat.le_of_ble_eq_true rfl)) dL_law_1102 ⟨Nat.le_of_ble_eq_true rfl, Nat.le_of_ble_eq_true rfl⟩) hS (fun q _ h => ad_A hAx hA (by decide) hS q h) (ad_A hAx hA (by decide) hS) (fun r1 u1 t1 H1 locs1 ht1 hv1 w1 hB1 hz1 hk1 hS => ?_)
  have hMI := hMI.kept (fr_ad (lo := 0) (hi := 112) hi (by decide) (by decide) (by decide) hk1)
  have hXI : X10I dC dI G ax T Y fa W0 W1 W2 N B N1 B1 N2 B2 K S M E Z H1 := by rw [← ht1]; exact hB1
  refine W.widen (k := 129) (n := 4562) (by omega) (by omega) ?_
  refine lv_pop hx hb dL_law_1105 rfl ?_
  refine lv_aload_n hx hb dL_law_1106 rfl (lv_at hl 1 rfl) ?_
  refine va_calli (va_runV (As := []) (rest := []) ⟨hx, hb, hml, hown, hg⟩ (k_X11_paths l dC dI G _ ax hi T Y fa W0 W1 W2 N B N1 B1 N2 B2 K S M E Z) (kwV hg mfX11_paths wt_1216 ⟨Nat.le_of_ble_eq_true rfl, Nat.le_of_ble_eq_true rfl⟩) (preVI hK hMI (hMI.recv hK)) rfl rfl hl.1 rfl (lv_room (Nat.le_of_ble_eq_true rfl)) dL_law_1107 ⟨Nat.le_of_ble_eq_true rfl, Nat.le_of_ble_eq_true rfl⟩) hS (fun q _ h => ad_A hAx hA (by decide) hS q h) (ad_A hAx hA (by decide) hS) (fun r2 u2 t2 H2 locs2 ht2 hv2 w2 hB2 hz2 hk2 hS => ?_)
  have hXI := hXI.kept (fr_ad (lo := 112) (hi := 129) hi (by decide) (by decide) (by decide) hk2)
  have hMI : X11I dC dI G ax T Y fa W0 W1 W2 N B N1 B1 N2 B2 K S M E Z H2 := by rw [← ht2]; exact hB2
  refine W.widen (k := 129) (n := 4562) (by omega) (by omega) ?_
  refine lv_pop hx hb dL_law_1110 rfl ?_
  refine lv_goto (tgt := 1381) hx hb dL_law_1111 (by decide) ?_
  exact kk _ _ ⟨_, _, _, _, _, _, _, _, _, _, _, _, _, _, _, _, _, hXI, hMI⟩ hS

set_option maxHeartbeats 1000000 in
set_option maxRecDepth 100000 in
theorem lc_eye {p : Program} {l : Launch} {e : Env} {s : State} {m : MethodId} {below : List Frame} {meth : Method} {c : Code} {b L : Nat} {xs : Nat → Int32} {dC : Nat → ClassId} {dI : Nat → Nat → Nat} {G : Nat → ClassId} {ax adK adV : Nat → Nat} {A : Nat → Prop} {Q : State → Prop} (C1 : lw_C p s m c b L xs dC dI G ax adK adV A) {k : Nat} (hk : 5 * k + 5 ≤ L) (hL : L ≤ 2560) {H : Heap} {locs : List Loc} {ls : Array Slot} (hI : LI dC dI G ax H) (hS : va_S A s.heap H locs) (hl : lv_has ls 4 [(3, .int (nI (5 * k))), (2, .ref (ax 112)), (1, .ref (ax 0)), (0, .ref b)]) (kk : ∀ (H : Heap) (locs : List Loc), LI dC dI G ax H → va_S A s.heap H locs → W p l e room_1 s m #[Value.ref b] below meth c H locs 129 4562 Q (F0 m 1381 ls [])) : W p l e room_1 s m #[Value.ref b] below meth c H locs 129 4562 Q (F0 m 1114 ls []) := by
  obtain ⟨hx, hb, hml, hown, hg, hX, hbl, hbA, hK, hi, hAx, hA, hSS⟩ := C1
  obtain ⟨T, Y, fa, W0, W1, W2, N, B, N1, B1, N2, B2, K, S, M, E, Z, hXI, hMI⟩ := hI
  refine lv_aload_n hx hb dL_law_1114 rfl (lv_at hl 2 rfl) ?_
  refine lv_aload_n hx hb dL_law_1115 rfl (lv_at hl 3 rfl) ?_
  refine lv_iload_n hx hb dL_law_1116 rfl (lv_at hl 0 rfl) ?_
  refine lv_iconst (v := 1) hx hb dL_law_1117 (by decide) ?_
  refine lv_iadd hx hb dL_law_1118 ?_
  refine lv_cg (y := nI (5 * k + 1)) (by rw [show (1 : Int32) = nI 1 from rfl]; exact nI_add _ _) ?_
  refine va_sld hx hb hX hbl hbA hS (vp_in_nI (by omega) (by omega)) dL_law_1119 ?_
  refine lv_cg (y := xs (5 * k + 1)) (by rw [nI_clamp (by omega)]) ?_
  refine va_calli (va_runV (As := [.int (xs (5 * k + 1))]) (rest := []) ⟨hx, hb, hml, hown, hg⟩ (k_X10_eye l dC dI G _ ax hi T Y fa W0 W1 W2 N B N1 B1 N2 B2 K S M E Z (xs (5 * k + 1))) (kwV hg mfX10_eye wt_788 ⟨Nat.le_of_ble_eq_true rfl, Nat.le_of_ble_eq_true rfl⟩) (preVI hK hXI (hXI.recv hK)) rfl rfl hl.1 rfl (lv_room (Nat.le_of_ble_eq_true rfl)) dL_law_1120 ⟨Nat.le_of_ble_eq_true rfl, Nat.le_of_ble_eq_true rfl⟩) hS (fun q _ h => ad_A hAx hA (by decide) hS q h) (ad_A hAx hA (by decide) hS) (fun r1 u1 t1 H1 locs1 ht1 hv1 w1 hB1 hz1 hk1 hS => ?_)
  have hMI := hMI.kept (fr_ad (lo := 0) (hi := 112) hi (by decide) (by decide) (by decide) hk1)
  have hXI : X10I dC dI G ax T Y fa W0 W1 W2 N B N1 B1 N2 B2 K S M E Z H1 := by rw [← ht1]; exact hB1
  refine W.widen (k := 129) (n := 4562) (by omega) (by omega) ?_
  refine lv_pop hx hb dL_law_1123 rfl ?_
  refine lv_aload_n hx hb dL_law_1124 rfl (lv_at hl 1 rfl) ?_
  refine lv_aload_n hx hb dL_law_1125 rfl (lv_at hl 3 rfl) ?_
  refine lv_iload_n hx hb dL_law_1126 rfl (lv_at hl 0 rfl) ?_
  refine lv_iconst (v := 1) hx hb dL_law_1127 (by decide) ?_
  refine lv_iadd hx hb dL_law_1128 ?_
  refine lv_cg (y := nI (5 * k + 1)) (by rw [show (1 : Int32) = nI 1 from rfl]; exact nI_add _ _) ?_
  refine va_sld hx hb hX hbl hbA hS (vp_in_nI (by omega) (by omega)) dL_law_1129 ?_
  refine lv_cg (y := xs (5 * k + 1)) (by rw [nI_clamp (by omega)]) ?_
  refine va_calli (va_runV (As := [.int (xs (5 * k + 1))]) (rest := []) ⟨hx, hb, hml, hown, hg⟩ (k_X11_eye l dC dI G _ ax hi T Y fa W0 W1 W2 N B N1 B1 N2 B2 K S M E Z (xs (5 * k + 1))) (kwV hg mfX11_eye wt_1236 ⟨Nat.le_of_ble_eq_true rfl, Nat.le_of_ble_eq_true rfl⟩) (preVI hK hMI (hMI.recv hK)) rfl rfl hl.1 rfl (lv_room (Nat.le_of_ble_eq_true rfl)) dL_law_1130 ⟨Nat.le_of_ble_eq_true rfl, Nat.le_of_ble_eq_true rfl⟩) hS (fun q _ h => ad_A hAx hA (by decide) hS q h) (ad_A hAx hA (by decide) hS) (fun r2 u2 t2 H2 locs2 ht2 hv2 w2 hB2 hz2 hk2 hS => ?_)
  have hXI := hXI.kept (fr_ad (lo := 112) (hi := 129) hi (by decide) (by decide) (by decide) hk2)
  have hMI : X11I dC dI G ax T Y fa W0 W1 W2 N B N1 B1 N2 B2 K S M E Z H2 := by rw [← ht2]; exact hB2
  refine W.widen (k := 129) (n := 4562) (by omega) (by omega) ?_
  refine lv_pop hx hb dL_law_1133 rfl ?_
  refine lv_goto (tgt := 1381) hx hb dL_law_1134 (by decide) ?_
  exact kk _ _ ⟨_, _, _, _, _, _, _, _, _, _, _, _, _, _, _, _, _, hXI, hMI⟩ hS

set_option maxHeartbeats 1000000 in
set_option maxRecDepth 100000 in
theorem lc_sure {p : Program} {l : Launch} {e : Env} {s : State} {m : MethodId} {below : List Frame} {meth : Method} {c : Code} {b L : Nat} {xs : Nat → Int32} {dC : Nat → ClassId} {dI : Nat → Nat → Nat} {G : Nat → ClassId} {ax adK adV : Nat → Nat} {A : Nat → Prop} {Q : State → Prop} (C1 : lw_C p s m c b L xs dC dI G ax adK adV A) {k : Nat} (hk : 5 * k + 5 ≤ L) (hL : L ≤ 2560) {H : Heap} {locs : List Loc} {ls : Array Slot} (hI : LI dC dI G ax H) (hS : va_S A s.heap H locs) (hl : lv_has ls 4 [(3, .int (nI (5 * k))), (2, .ref (ax 112)), (1, .ref (ax 0)), (0, .ref b)]) (kk : ∀ (H : Heap) (locs : List Loc), LI dC dI G ax H → va_S A s.heap H locs → W p l e room_1 s m #[Value.ref b] below meth c H locs 129 4562 Q (F0 m 1381 ls [])) : W p l e room_1 s m #[Value.ref b] below meth c H locs 129 4562 Q (F0 m 1137 ls []) := by
  obtain ⟨hx, hb, hml, hown, hg, hX, hbl, hbA, hK, hi, hAx, hA, hSS⟩ := C1
  obtain ⟨T, Y, fa, W0, W1, W2, N, B, N1, B1, N2, B2, K, S, M, E, Z, hXI, hMI⟩ := hI
  refine lv_aload_n hx hb dL_law_1137 rfl (lv_at hl 2 rfl) ?_
  refine lv_aload_n hx hb dL_law_1138 rfl (lv_at hl 3 rfl) ?_
  refine lv_iload_n hx hb dL_law_1139 rfl (lv_at hl 0 rfl) ?_
  refine lv_iconst (v := 1) hx hb dL_law_1140 (by decide) ?_
  refine lv_iadd hx hb dL_law_1141 ?_
  refine lv_cg (y := nI (5 * k + 1)) (by rw [show (1 : Int32) = nI 1 from rfl]; exact nI_add _ _) ?_
  refine va_sld hx hb hX hbl hbA hS (vp_in_nI (by omega) (by omega)) dL_law_1142 ?_
  refine lv_cg (y := xs (5 * k + 1)) (by rw [nI_clamp (by omega)]) ?_
  refine va_calli (va_runV (As := [.int (xs (5 * k + 1))]) (rest := []) ⟨hx, hb, hml, hown, hg⟩ (k_X10_sure l dC dI G _ ax hi T Y fa W0 W1 W2 N B N1 B1 N2 B2 K S M E Z (xs (5 * k + 1))) (kwV hg mfX10_sure wt_796 ⟨Nat.le_of_ble_eq_true rfl, Nat.le_of_ble_eq_true rfl⟩) (preVI hK hXI (hXI.recv hK)) rfl rfl hl.1 rfl (lv_room (Nat.le_of_ble_eq_true rfl)) dL_law_1143 ⟨Nat.le_of_ble_eq_true rfl, Nat.le_of_ble_eq_true rfl⟩) hS (fun q _ h => ad_A hAx hA (by decide) hS q h) (ad_A hAx hA (by decide) hS) (fun r1 u1 t1 H1 locs1 ht1 hv1 w1 hB1 hz1 hk1 hS => ?_)
  have hMI := hMI.kept (fr_ad (lo := 0) (hi := 112) hi (by decide) (by decide) (by decide) hk1)
  have hXI : X10I dC dI G ax T Y fa W0 W1 W2 N B N1 B1 N2 B2 K S M E Z H1 := by rw [← ht1]; exact hB1
  refine W.widen (k := 129) (n := 4562) (by omega) (by omega) ?_
  refine lv_pop hx hb dL_law_1146 rfl ?_
  refine lv_aload_n hx hb dL_law_1147 rfl (lv_at hl 1 rfl) ?_
  refine lv_aload_n hx hb dL_law_1148 rfl (lv_at hl 3 rfl) ?_
  refine lv_iload_n hx hb dL_law_1149 rfl (lv_at hl 0 rfl) ?_
  refine lv_iconst (v := 1) hx hb dL_law_1150 (by decide) ?_
  refine lv_iadd hx hb dL_law_1151 ?_
  refine lv_cg (y := nI (5 * k + 1)) (by rw [show (1 : Int32) = nI 1 from rfl]; exact nI_add _ _) ?_
  refine va_sld hx hb hX hbl hbA hS (vp_in_nI (by omega) (by omega)) dL_law_1152 ?_
  refine lv_cg (y := xs (5 * k + 1)) (by rw [nI_clamp (by omega)]) ?_
  refine va_calli (va_runV (As := [.int (xs (5 * k + 1))]) (rest := []) ⟨hx, hb, hml, hown, hg⟩ (k_X11_sure l dC dI G _ ax hi T Y fa W0 W1 W2 N B N1 B1 N2 B2 K S M E Z (xs (5 * k + 1))) (kwV hg mfX11_sure wt_1240 ⟨Nat.le_of_ble_eq_true rfl, Nat.le_of_ble_eq_true rfl⟩) (preVI hK hMI (hMI.recv hK)) rfl rfl hl.1 rfl (lv_room (Nat.le_of_ble_eq_true rfl)) dL_law_1153 ⟨Nat.le_of_ble_eq_true rfl, Nat.le_of_ble_eq_true rfl⟩) hS (fun q _ h => ad_A hAx hA (by decide) hS q h) (ad_A hAx hA (by decide) hS) (fun r2 u2 t2 H2 locs2 ht2 hv2 w2 hB2 hz2 hk2 hS => ?_)
  have hXI := hXI.kept (fr_ad (lo := 112) (hi := 129) hi (by decide) (by decide) (by decide) hk2)
  have hMI : X11I dC dI G ax T Y fa W0 W1 W2 N B N1 B1 N2 B2 K S M E Z H2 := by rw [← ht2]; exact hB2
  refine W.widen (k := 129) (n := 4562) (by omega) (by omega) ?_
  refine lv_pop hx hb dL_law_1156 rfl ?_
  refine lv_goto (tgt := 1381) hx hb dL_law_1157 (by decide) ?_
  exact kk _ _ ⟨_, _, _, _, _, _, _, _, _, _, _, _, _, _, _, _, _, hXI, hMI⟩ hS

set_option maxHeartbeats 1000000 in
set_option maxRecDepth 100000 in
theorem lc_keep {p : Program} {l : Launch} {e : Env} {s : State} {m : MethodId} {below : List Frame} {meth : Method} {c : Code} {b L : Nat} {xs : Nat → Int32} {dC : Nat → ClassId} {dI : Nat → Nat → Nat} {G : Nat → ClassId} {ax adK adV : Nat → Nat} {A : Nat → Prop} {Q : State → Prop} (C1 : lw_C p s m c b L xs dC dI G ax adK adV A) {k : Nat} (hk : 5 * k + 5 ≤ L) (hL : L ≤ 2560) {H : Heap} {locs : List Loc} {ls : Array Slot} (hI : LI dC dI G ax H) (hS : va_S A s.heap H locs) (hl : lv_has ls 4 [(3, .int (nI (5 * k))), (2, .ref (ax 112)), (1, .ref (ax 0)), (0, .ref b)]) (kk : ∀ (H : Heap) (locs : List Loc), LI dC dI G ax H → va_S A s.heap H locs → W p l e room_1 s m #[Value.ref b] below meth c H locs 129 4562 Q (F0 m 1381 ls [])) : W p l e room_1 s m #[Value.ref b] below meth c H locs 129 4562 Q (F0 m 1160 ls []) := by
  obtain ⟨hx, hb, hml, hown, hg, hX, hbl, hbA, hK, hi, hAx, hA, hSS⟩ := C1
  obtain ⟨T, Y, fa, W0, W1, W2, N, B, N1, B1, N2, B2, K, S, M, E, Z, hXI, hMI⟩ := hI
  refine lv_aload_n hx hb dL_law_1160 rfl (lv_at hl 2 rfl) ?_
  refine lv_aload_n hx hb dL_law_1161 rfl (lv_at hl 3 rfl) ?_
  refine lv_iload_n hx hb dL_law_1162 rfl (lv_at hl 0 rfl) ?_
  refine lv_iconst (v := 1) hx hb dL_law_1163 (by decide) ?_
  refine lv_iadd hx hb dL_law_1164 ?_
  refine lv_cg (y := nI (5 * k + 1)) (by rw [show (1 : Int32) = nI 1 from rfl]; exact nI_add _ _) ?_
  refine va_sld hx hb hX hbl hbA hS (vp_in_nI (by omega) (by omega)) dL_law_1165 ?_
  refine lv_cg (y := xs (5 * k + 1)) (by rw [nI_clamp (by omega)]) ?_
  refine va_calli (va_runV (As := [.int (xs (5 * k + 1))]) (rest := []) ⟨hx, hb, hml, hown, hg⟩ (k_X10_keepW l dC dI G _ ax hi T Y fa W0 W1 W2 N B N1 B1 N2 B2 K S M E Z (xs (5 * k + 1))) (kwV hg mfX10_keep wt_808 ⟨Nat.le_of_ble_eq_true rfl, Nat.le_of_ble_eq_true rfl⟩) (preVI hK hXI (hXI.recv hK)) rfl rfl hl.1 rfl (lv_room (Nat.le_of_ble_eq_true rfl)) dL_law_1166 ⟨Nat.le_of_ble_eq_true rfl, Nat.le_of_ble_eq_true rfl⟩) hS (fun q _ h => ad_A hAx hA (by decide) hS q h) (ad_A hAx hA (by decide) hS) (fun r1 u1 t1 H1 locs1 ht1 hv1 w1 hB1 hz1 hk1 hS => ?_)
  have hMI := hMI.kept (fr_ad (lo := 0) (hi := 112) hi (by decide) (by decide) (by decide) hk1)
  have hXI : X10I dC dI G ax T Y fa W0 (if (xs (5 * k + 1)) = 0 then W0 else W1) (if (xs (5 * k + 1)) = 1 then W0 else W2) N B (if (xs (5 * k + 1)) = 0 then N else N1) (if (xs (5 * k + 1)) = 0 then B else B1) (if (xs (5 * k + 1)) = 1 then N else N2) (if (xs (5 * k + 1)) = 1 then B else B2) (if (0 ≤ (xs (5 * k + 1)).toInt ∧ (xs (5 * k + 1)).toInt < 2) then upd K (xs (5 * k + 1)).toNatClampNeg 1 else K) S M E Z H1 := by rw [← ht1]; exact hB1
  refine W.widen (k := 129) (n := 4562) (by omega) (by omega) ?_
  refine lv_pop hx hb dL_law_1169 rfl ?_
  refine lv_aload_n hx hb dL_law_1170 rfl (lv_at hl 1 rfl) ?_
  refine lv_aload_n hx hb dL_law_1171 rfl (lv_at hl 3 rfl) ?_
  refine lv_iload_n hx hb dL_law_1172 rfl (lv_at hl 0 rfl) ?_
  refine lv_iconst (v := 1) hx hb dL_law_1173 (by decide) ?_
  refine lv_iadd hx hb dL_law_1174 ?_
  refine lv_cg (y := nI (5 * k + 1)) (by rw [show (1 : Int32) = nI 1 from rfl]; exact nI_add _ _) ?_
  refine va_sld hx hb hX hbl hbA hS (vp_in_nI (by omega) (by omega)) dL_law_1175 ?_
  refine lv_cg (y := xs (5 * k + 1)) (by rw [nI_clamp (by omega)]) ?_
  refine va_calli (va_runV (As := [.int (xs (5 * k + 1))]) (rest := []) ⟨hx, hb, hml, hown, hg⟩ (k_X11_keepW l dC dI G _ ax hi T Y fa W0 W1 W2 N B N1 B1 N2 B2 K S M E Z (xs (5 * k + 1))) (kwV hg mfX11_keep wt_1244 ⟨Nat.le_of_ble_eq_true rfl, Nat.le_of_ble_eq_true rfl⟩) (preVI hK hMI (hMI.recv hK)) rfl rfl hl.1 rfl (lv_room (Nat.le_of_ble_eq_true rfl)) dL_law_1176 ⟨Nat.le_of_ble_eq_true rfl, Nat.le_of_ble_eq_true rfl⟩) hS (fun q _ h => ad_A hAx hA (by decide) hS q h) (ad_A hAx hA (by decide) hS) (fun r2 u2 t2 H2 locs2 ht2 hv2 w2 hB2 hz2 hk2 hS => ?_)
  have hXI := hXI.kept (fr_ad (lo := 112) (hi := 129) hi (by decide) (by decide) (by decide) hk2)
  have hMI : X11I dC dI G ax T Y fa W0 (if (xs (5 * k + 1)) = 0 then W0 else W1) (if (xs (5 * k + 1)) = 1 then W0 else W2) N B (if (xs (5 * k + 1)) = 0 then N else N1) (if (xs (5 * k + 1)) = 0 then B else B1) (if (xs (5 * k + 1)) = 1 then N else N2) (if (xs (5 * k + 1)) = 1 then B else B2) (if (0 ≤ (xs (5 * k + 1)).toInt ∧ (xs (5 * k + 1)).toInt < 2) then upd K (xs (5 * k + 1)).toNatClampNeg 1 else K) S M E Z H2 := by rw [← ht2]; exact hB2
  refine W.widen (k := 129) (n := 4562) (by omega) (by omega) ?_
  refine lv_pop hx hb dL_law_1179 rfl ?_
  refine lv_goto (tgt := 1381) hx hb dL_law_1180 (by decide) ?_
  exact kk _ _ ⟨_, _, _, _, _, _, _, _, _, _, _, _, _, _, _, _, _, hXI, hMI⟩ hS

set_option maxHeartbeats 1000000 in
set_option maxRecDepth 100000 in
theorem lc_back {p : Program} {l : Launch} {e : Env} {s : State} {m : MethodId} {below : List Frame} {meth : Method} {c : Code} {b L : Nat} {xs : Nat → Int32} {dC : Nat → ClassId} {dI : Nat → Nat → Nat} {G : Nat → ClassId} {ax adK adV : Nat → Nat} {A : Nat → Prop} {Q : State → Prop} (C1 : lw_C p s m c b L xs dC dI G ax adK adV A) {k : Nat} (hk : 5 * k + 5 ≤ L) (hL : L ≤ 2560) {H : Heap} {locs : List Loc} {ls : Array Slot} (hI : LI dC dI G ax H) (hS : va_S A s.heap H locs) (hl : lv_has ls 4 [(3, .int (nI (5 * k))), (2, .ref (ax 112)), (1, .ref (ax 0)), (0, .ref b)]) (kk : ∀ (H : Heap) (locs : List Loc), LI dC dI G ax H → va_S A s.heap H locs → W p l e room_1 s m #[Value.ref b] below meth c H locs 129 4562 Q (F0 m 1381 ls [])) : W p l e room_1 s m #[Value.ref b] below meth c H locs 129 4562 Q (F0 m 1183 ls []) := by
  obtain ⟨hx, hb, hml, hown, hg, hX, hbl, hbA, hK, hi, hAx, hA, hSS⟩ := C1
  obtain ⟨T, Y, fa, W0, W1, W2, N, B, N1, B1, N2, B2, K, S, M, E, Z, hXI, hMI⟩ := hI
  refine lv_aload_n hx hb dL_law_1183 rfl (lv_at hl 2 rfl) ?_
  refine lv_aload_n hx hb dL_law_1184 rfl (lv_at hl 3 rfl) ?_
  refine lv_iload_n hx hb dL_law_1185 rfl (lv_at hl 0 rfl) ?_
  refine lv_iconst (v := 1) hx hb dL_law_1186 (by decide) ?_
  refine lv_iadd hx hb dL_law_1187 ?_
  refine lv_cg (y := nI (5 * k + 1)) (by rw [show (1 : Int32) = nI 1 from rfl]; exact nI_add _ _) ?_
  refine va_sld hx hb hX hbl hbA hS (vp_in_nI (by omega) (by omega)) dL_law_1188 ?_
  refine lv_cg (y := xs (5 * k + 1)) (by rw [nI_clamp (by omega)]) ?_
  refine va_calli (va_runV (As := [.int (xs (5 * k + 1))]) (rest := []) ⟨hx, hb, hml, hown, hg⟩ (k_X10_backW l dC dI G _ ax hi T Y fa W0 W1 W2 N B N1 B1 N2 B2 K S M E Z (xs (5 * k + 1))) (kwV hg mfX10_back wt_815 ⟨Nat.le_of_ble_eq_true rfl, Nat.le_of_ble_eq_true rfl⟩) (preVI hK hXI (hXI.recv hK)) rfl rfl hl.1 rfl (lv_room (Nat.le_of_ble_eq_true rfl)) dL_law_1189 ⟨Nat.le_of_ble_eq_true rfl, Nat.le_of_ble_eq_true rfl⟩) hS (fun q _ h => ad_A hAx hA (by decide) hS q h) (ad_A hAx hA (by decide) hS) (fun r1 u1 t1 H1 locs1 ht1 hv1 w1 hB1 hz1 hk1 hS => ?_)
  have hMI := hMI.kept (fr_ad (lo := 0) (hi := 112) hi (by decide) (by decide) (by decide) hk1)
  have hXI : X10I dC dI G ax T Y fa (bkW (xs (5 * k + 1)) K W0 W1 W2) W1 W2 N B N1 B1 N2 B2 K S M E Z H1 := by rw [← ht1]; exact hB1
  refine W.widen (k := 129) (n := 4562) (by omega) (by omega) ?_
  refine lv_pop hx hb dL_law_1192 rfl ?_
  refine lv_aload_n hx hb dL_law_1193 rfl (lv_at hl 1 rfl) ?_
  refine lv_aload_n hx hb dL_law_1194 rfl (lv_at hl 3 rfl) ?_
  refine lv_iload_n hx hb dL_law_1195 rfl (lv_at hl 0 rfl) ?_
  refine lv_iconst (v := 1) hx hb dL_law_1196 (by decide) ?_
  refine lv_iadd hx hb dL_law_1197 ?_
  refine lv_cg (y := nI (5 * k + 1)) (by rw [show (1 : Int32) = nI 1 from rfl]; exact nI_add _ _) ?_
  refine va_sld hx hb hX hbl hbA hS (vp_in_nI (by omega) (by omega)) dL_law_1198 ?_
  refine lv_cg (y := xs (5 * k + 1)) (by rw [nI_clamp (by omega)]) ?_
  refine va_calli (va_runV (As := [.int (xs (5 * k + 1))]) (rest := []) ⟨hx, hb, hml, hown, hg⟩ (k_X11_backW l dC dI G _ ax hi T Y fa W0 W1 W2 N B N1 B1 N2 B2 K S M E Z (xs (5 * k + 1))) (kwV hg mfX11_back wt_1252 ⟨Nat.le_of_ble_eq_true rfl, Nat.le_of_ble_eq_true rfl⟩) (preVI hK hMI (hMI.recv hK)) rfl rfl hl.1 rfl (lv_room (Nat.le_of_ble_eq_true rfl)) dL_law_1199 ⟨Nat.le_of_ble_eq_true rfl, Nat.le_of_ble_eq_true rfl⟩) hS (fun q _ h => ad_A hAx hA (by decide) hS q h) (ad_A hAx hA (by decide) hS) (fun r2 u2 t2 H2 locs2 ht2 hv2 w2 hB2 hz2 hk2 hS => ?_)
  have hXI := hXI.kept (fr_ad (lo := 112) (hi := 129) hi (by decide) (by decide) (by decide) hk2)
  have hMI : X11I dC dI G ax T Y fa (bkW (xs (5 * k + 1)) K W0 W1 W2) W1 W2 N B N1 B1 N2 B2 K S M E Z H2 := by rw [← ht2]; exact hB2
  refine W.widen (k := 129) (n := 4562) (by omega) (by omega) ?_
  refine lv_pop hx hb dL_law_1202 rfl ?_
  refine lv_goto (tgt := 1381) hx hb dL_law_1203 (by decide) ?_
  exact kk _ _ ⟨_, _, _, _, _, _, _, _, _, _, _, _, _, _, _, _, _, hXI, hMI⟩ hS

set_option maxHeartbeats 1000000 in
set_option maxRecDepth 100000 in
theorem lc_sheet {p : Program} {l : Launch} {e : Env} {s : State} {m : MethodId} {below : List Frame} {meth : Method} {c : Code} {b L : Nat} {xs : Nat → Int32} {dC : Nat → ClassId} {dI : Nat → Nat → Nat} {G : Nat → ClassId} {ax adK adV : Nat → Nat} {A : Nat → Prop} {Q : State → Prop} (C1 : lw_C p s m c b L xs dC dI G ax adK adV A) {k : Nat} (hk : 5 * k + 5 ≤ L) (hL : L ≤ 2560) {H : Heap} {locs : List Loc} {ls : Array Slot} (hI : LI dC dI G ax H) (hS : va_S A s.heap H locs) (hl : lv_has ls 4 [(3, .int (nI (5 * k))), (2, .ref (ax 112)), (1, .ref (ax 0)), (0, .ref b)]) (kk : ∀ (H : Heap) (locs : List Loc), LI dC dI G ax H → va_S A s.heap H locs → W p l e room_1 s m #[Value.ref b] below meth c H locs 129 4562 Q (F0 m 1381 ls [])) : W p l e room_1 s m #[Value.ref b] below meth c H locs 129 4562 Q (F0 m 1206 ls []) := by
  obtain ⟨hx, hb, hml, hown, hg, hX, hbl, hbA, hK, hi, hAx, hA, hSS⟩ := C1
  obtain ⟨T, Y, fa, W0, W1, W2, N, B, N1, B1, N2, B2, K, S, M, E, Z, hXI, hMI⟩ := hI
  refine lv_aload_n hx hb dL_law_1206 rfl (lv_at hl 2 rfl) ?_
  refine lv_aload_n hx hb dL_law_1207 rfl (lv_at hl 3 rfl) ?_
  refine lv_iload_n hx hb dL_law_1208 rfl (lv_at hl 0 rfl) ?_
  refine lv_iconst (v := 1) hx hb dL_law_1209 (by decide) ?_
  refine lv_iadd hx hb dL_law_1210 ?_
  refine lv_cg (y := nI (5 * k + 1)) (by rw [show (1 : Int32) = nI 1 from rfl]; exact nI_add _ _) ?_
  refine va_sld hx hb hX hbl hbA hS (vp_in_nI (by omega) (by omega)) dL_law_1211 ?_
  refine lv_cg (y := xs (5 * k + 1)) (by rw [nI_clamp (by omega)]) ?_
  refine lv_aload_n hx hb dL_law_1212 rfl (lv_at hl 3 rfl) ?_
  refine lv_iload_n hx hb dL_law_1213 rfl (lv_at hl 0 rfl) ?_
  refine lv_iconst (v := 2) hx hb dL_law_1214 (by decide) ?_
  refine lv_iadd hx hb dL_law_1215 ?_
  refine lv_cg (y := nI (5 * k + 2)) (by rw [show (2 : Int32) = nI 2 from rfl]; exact nI_add _ _) ?_
  refine va_sld hx hb hX hbl hbA hS (vp_in_nI (by omega) (by omega)) dL_law_1216 ?_
  refine lv_cg (y := xs (5 * k + 2)) (by rw [nI_clamp (by omega)]) ?_
  refine lv_aload_n hx hb dL_law_1217 rfl (lv_at hl 3 rfl) ?_
  refine lv_iload_n hx hb dL_law_1218 rfl (lv_at hl 0 rfl) ?_
  refine lv_iconst (v := 3) hx hb dL_law_1219 (by decide) ?_
  refine lv_iadd hx hb dL_law_1220 ?_
  refine lv_cg (y := nI (5 * k + 3)) (by rw [show (3 : Int32) = nI 3 from rfl]; exact nI_add _ _) ?_
  refine va_sld hx hb hX hbl hbA hS (vp_in_nI (by omega) (by omega)) dL_law_1221 ?_
  refine lv_cg (y := xs (5 * k + 3)) (by rw [nI_clamp (by omega)]) ?_
  refine va_calli (va_runV (As := [.int (xs (5 * k + 1)), .int (xs (5 * k + 2)), .int (xs (5 * k + 3))]) (rest := []) ⟨hx, hb, hml, hown, hg⟩ (k_X10_sheet l dC dI G _ ax hi T Y fa W0 W1 W2 N B N1 B1 N2 B2 K S M E Z (xs (5 * k + 1)) (xs (5 * k + 2)) (xs (5 * k + 3))) (kwV hg mfX10_sheet wt_819 ⟨Nat.le_of_ble_eq_true rfl, Nat.le_of_ble_eq_true rfl⟩) (preVI hK hXI (hXI.recv hK)) rfl rfl hl.1 rfl (lv_room (Nat.le_of_ble_eq_true rfl)) dL_law_1222 ⟨Nat.le_of_ble_eq_true rfl, Nat.le_of_ble_eq_true rfl⟩) hS (fun q _ h => ad_A hAx hA (by decide) hS q h) (ad_A hAx hA (by decide) hS) (fun r1 u1 t1 H1 locs1 ht1 hv1 w1 hB1 hz1 hk1 hS => ?_)
  have hMI := hMI.kept (fr_ad (lo := 0) (hi := 112) hi (by decide) (by decide) (by decide) hk1)
  have hXI : X10I dC dI G ax T Y fa W0 W1 W2 N B N1 B1 N2 B2 K S M (if ((0 ≤ (xs (5 * k + 1)).toInt ∧ (xs (5 * k + 1)).toInt < 4) ∧ (0 ≤ (xs (5 * k + 2)).toInt ∧ (xs (5 * k + 2)).toInt ≤ 2) ∧ (xs (5 * k + 3)).toInt ≤ 40 ∧ 0 ≤ (xs (5 * k + 3)).toInt) then upd E (xs (5 * k + 1)).toNatClampNeg (xs (5 * k + 2)) else E) (if ((0 ≤ (xs (5 * k + 1)).toInt ∧ (xs (5 * k + 1)).toInt < 4) ∧ (0 ≤ (xs (5 * k + 2)).toInt ∧ (xs (5 * k + 2)).toInt ≤ 2) ∧ (xs (5 * k + 3)).toInt ≤ 40 ∧ 0 ≤ (xs (5 * k + 3)).toInt) then upd Z (xs (5 * k + 1)).toNatClampNeg (xs (5 * k + 3)) else Z) H1 := by rw [← ht1]; exact hB1
  refine W.widen (k := 129) (n := 4562) (by omega) (by omega) ?_
  refine lv_pop hx hb dL_law_1225 rfl ?_
  refine lv_aload_n hx hb dL_law_1226 rfl (lv_at hl 1 rfl) ?_
  refine lv_aload_n hx hb dL_law_1227 rfl (lv_at hl 3 rfl) ?_
  refine lv_iload_n hx hb dL_law_1228 rfl (lv_at hl 0 rfl) ?_
  refine lv_iconst (v := 1) hx hb dL_law_1229 (by decide) ?_
  refine lv_iadd hx hb dL_law_1230 ?_
  refine lv_cg (y := nI (5 * k + 1)) (by rw [show (1 : Int32) = nI 1 from rfl]; exact nI_add _ _) ?_
  refine va_sld hx hb hX hbl hbA hS (vp_in_nI (by omega) (by omega)) dL_law_1231 ?_
  refine lv_cg (y := xs (5 * k + 1)) (by rw [nI_clamp (by omega)]) ?_
  refine lv_aload_n hx hb dL_law_1232 rfl (lv_at hl 3 rfl) ?_
  refine lv_iload_n hx hb dL_law_1233 rfl (lv_at hl 0 rfl) ?_
  refine lv_iconst (v := 2) hx hb dL_law_1234 (by decide) ?_
  refine lv_iadd hx hb dL_law_1235 ?_
  refine lv_cg (y := nI (5 * k + 2)) (by rw [show (2 : Int32) = nI 2 from rfl]; exact nI_add _ _) ?_
  refine va_sld hx hb hX hbl hbA hS (vp_in_nI (by omega) (by omega)) dL_law_1236 ?_
  refine lv_cg (y := xs (5 * k + 2)) (by rw [nI_clamp (by omega)]) ?_
  refine lv_aload_n hx hb dL_law_1237 rfl (lv_at hl 3 rfl) ?_
  refine lv_iload_n hx hb dL_law_1238 rfl (lv_at hl 0 rfl) ?_
  refine lv_iconst (v := 3) hx hb dL_law_1239 (by decide) ?_
  refine lv_iadd hx hb dL_law_1240 ?_
  refine lv_cg (y := nI (5 * k + 3)) (by rw [show (3 : Int32) = nI 3 from rfl]; exact nI_add _ _) ?_
  refine va_sld hx hb hX hbl hbA hS (vp_in_nI (by omega) (by omega)) dL_law_1241 ?_
  refine lv_cg (y := xs (5 * k + 3)) (by rw [nI_clamp (by omega)]) ?_
  refine va_calli (va_runV (As := [.int (xs (5 * k + 1)), .int (xs (5 * k + 2)), .int (xs (5 * k + 3))]) (rest := []) ⟨hx, hb, hml, hown, hg⟩ (k_X11_sheet l dC dI G _ ax hi T Y fa W0 W1 W2 N B N1 B1 N2 B2 K S M E Z (xs (5 * k + 1)) (xs (5 * k + 2)) (xs (5 * k + 3))) (kwV hg mfX11_sheet wt_1256 ⟨Nat.le_of_ble_eq_true rfl, Nat.le_of_ble_eq_true rfl⟩) (preVI hK hMI (hMI.recv hK)) rfl rfl hl.1 rfl (lv_room (Nat.le_of_ble_eq_true rfl)) dL_law_1242 ⟨Nat.le_of_ble_eq_true rfl, Nat.le_of_ble_eq_true rfl⟩) hS (fun q _ h => ad_A hAx hA (by decide) hS q h) (ad_A hAx hA (by decide) hS) (fun r2 u2 t2 H2 locs2 ht2 hv2 w2 hB2 hz2 hk2 hS => ?_)
  have hXI := hXI.kept (fr_ad (lo := 112) (hi := 129) hi (by decide) (by decide) (by decide) hk2)
  have hMI : X11I dC dI G ax T Y fa W0 W1 W2 N B N1 B1 N2 B2 K S M (if ((0 ≤ (xs (5 * k + 1)).toInt ∧ (xs (5 * k + 1)).toInt < 4) ∧ (0 ≤ (xs (5 * k + 2)).toInt ∧ (xs (5 * k + 2)).toInt ≤ 2) ∧ (xs (5 * k + 3)).toInt ≤ 40 ∧ 0 ≤ (xs (5 * k + 3)).toInt) then upd E (xs (5 * k + 1)).toNatClampNeg (xs (5 * k + 2)) else E) (if ((0 ≤ (xs (5 * k + 1)).toInt ∧ (xs (5 * k + 1)).toInt < 4) ∧ (0 ≤ (xs (5 * k + 2)).toInt ∧ (xs (5 * k + 2)).toInt ≤ 2) ∧ (xs (5 * k + 3)).toInt ≤ 40 ∧ 0 ≤ (xs (5 * k + 3)).toInt) then upd Z (xs (5 * k + 1)).toNatClampNeg (xs (5 * k + 3)) else Z) H2 := by rw [← ht2]; exact hB2
  refine W.widen (k := 129) (n := 4562) (by omega) (by omega) ?_
  refine lv_pop hx hb dL_law_1245 rfl ?_
  refine lv_goto (tgt := 1381) hx hb dL_law_1246 (by decide) ?_
  exact kk _ _ ⟨_, _, _, _, _, _, _, _, _, _, _, _, _, _, _, _, _, hXI, hMI⟩ hS

set_option maxHeartbeats 1000000 in
set_option maxRecDepth 100000 in
theorem lc_lay {p : Program} {l : Launch} {e : Env} {s : State} {m : MethodId} {below : List Frame} {meth : Method} {c : Code} {b L : Nat} {xs : Nat → Int32} {dC : Nat → ClassId} {dI : Nat → Nat → Nat} {G : Nat → ClassId} {ax adK adV : Nat → Nat} {A : Nat → Prop} {Q : State → Prop} (C1 : lw_C p s m c b L xs dC dI G ax adK adV A) {k : Nat} (hk : 5 * k + 5 ≤ L) (hL : L ≤ 2560) {H : Heap} {locs : List Loc} {ls : Array Slot} (hI : LI dC dI G ax H) (hS : va_S A s.heap H locs) (hl : lv_has ls 4 [(3, .int (nI (5 * k))), (2, .ref (ax 112)), (1, .ref (ax 0)), (0, .ref b)]) (kk : ∀ (H : Heap) (locs : List Loc), LI dC dI G ax H → va_S A s.heap H locs → W p l e room_1 s m #[Value.ref b] below meth c H locs 129 4562 Q (F0 m 1381 ls [])) : W p l e room_1 s m #[Value.ref b] below meth c H locs 129 4562 Q (F0 m 1249 ls []) := by
  obtain ⟨hx, hb, hml, hown, hg, hX, hbl, hbA, hK, hi, hAx, hA, hSS⟩ := C1
  obtain ⟨T, Y, fa, W0, W1, W2, N, B, N1, B1, N2, B2, K, S, M, E, Z, hXI, hMI⟩ := hI
  refine lv_aload_n hx hb dL_law_1249 rfl (lv_at hl 2 rfl) ?_
  refine lv_aload_n hx hb dL_law_1250 rfl (lv_at hl 3 rfl) ?_
  refine lv_iload_n hx hb dL_law_1251 rfl (lv_at hl 0 rfl) ?_
  refine lv_iconst (v := 1) hx hb dL_law_1252 (by decide) ?_
  refine lv_iadd hx hb dL_law_1253 ?_
  refine lv_cg (y := nI (5 * k + 1)) (by rw [show (1 : Int32) = nI 1 from rfl]; exact nI_add _ _) ?_
  refine va_sld hx hb hX hbl hbA hS (vp_in_nI (by omega) (by omega)) dL_law_1254 ?_
  refine lv_cg (y := xs (5 * k + 1)) (by rw [nI_clamp (by omega)]) ?_
  refine lv_aload_n hx hb dL_law_1255 rfl (lv_at hl 3 rfl) ?_
  refine lv_iload_n hx hb dL_law_1256 rfl (lv_at hl 0 rfl) ?_
  refine lv_iconst (v := 2) hx hb dL_law_1257 (by decide) ?_
  refine lv_iadd hx hb dL_law_1258 ?_
  refine lv_cg (y := nI (5 * k + 2)) (by rw [show (2 : Int32) = nI 2 from rfl]; exact nI_add _ _) ?_
  refine va_sld hx hb hX hbl hbA hS (vp_in_nI (by omega) (by omega)) dL_law_1259 ?_
  refine lv_cg (y := xs (5 * k + 2)) (by rw [nI_clamp (by omega)]) ?_
  refine lv_aload_n hx hb dL_law_1260 rfl (lv_at hl 3 rfl) ?_
  refine lv_iload_n hx hb dL_law_1261 rfl (lv_at hl 0 rfl) ?_
  refine lv_iconst (v := 3) hx hb dL_law_1262 (by decide) ?_
  refine lv_iadd hx hb dL_law_1263 ?_
  refine lv_cg (y := nI (5 * k + 3)) (by rw [show (3 : Int32) = nI 3 from rfl]; exact nI_add _ _) ?_
  refine va_sld hx hb hX hbl hbA hS (vp_in_nI (by omega) (by omega)) dL_law_1264 ?_
  refine lv_cg (y := xs (5 * k + 3)) (by rw [nI_clamp (by omega)]) ?_
  refine va_calli (va_runV (As := [.int (xs (5 * k + 1)), .int (xs (5 * k + 2)), .int (xs (5 * k + 3))]) (rest := []) ⟨hx, hb, hml, hown, hg⟩ (k_X10_lay l dC dI G _ ax hi T Y fa W0 W1 W2 N B N1 B1 N2 B2 K S M E Z (xs (5 * k + 1)) (xs (5 * k + 2)) (xs (5 * k + 3))) (kwV hg mfX10_lay wt_834 ⟨Nat.le_of_ble_eq_true rfl, Nat.le_of_ble_eq_true rfl⟩) (preVI hK hXI (hXI.recv hK)) rfl rfl hl.1 rfl (lv_room (Nat.le_of_ble_eq_true rfl)) dL_law_1265 ⟨Nat.le_of_ble_eq_true rfl, Nat.le_of_ble_eq_true rfl⟩) hS (fun q _ h => ad_A hAx hA (by decide) hS q h) (ad_A hAx hA (by decide) hS) (fun r1 u1 t1 H1 locs1 ht1 hv1 w1 hB1 hz1 hk1 hS => ?_)
  have hMI := hMI.kept (fr_ad (lo := 0) (hi := 112) hi (by decide) (by decide) (by decide) hk1)
  have hXI : X10I dC dI G ax T Y fa W0 W1 W2 N B N1 B1 N2 B2 K S M E Z H1 := by rw [← ht1]; exact hB1
  refine W.widen (k := 129) (n := 4562) (by omega) (by omega) ?_
  refine lv_pop hx hb dL_law_1268 rfl ?_
  refine lv_aload_n hx hb dL_law_1269 rfl (lv_at hl 1 rfl) ?_
  refine lv_aload_n hx hb dL_law_1270 rfl (lv_at hl 3 rfl) ?_
  refine lv_iload_n hx hb dL_law_1271 rfl (lv_at hl 0 rfl) ?_
  refine lv_iconst (v := 1) hx hb dL_law_1272 (by decide) ?_
  refine lv_iadd hx hb dL_law_1273 ?_
  refine lv_cg (y := nI (5 * k + 1)) (by rw [show (1 : Int32) = nI 1 from rfl]; exact nI_add _ _) ?_
  refine va_sld hx hb hX hbl hbA hS (vp_in_nI (by omega) (by omega)) dL_law_1274 ?_
  refine lv_cg (y := xs (5 * k + 1)) (by rw [nI_clamp (by omega)]) ?_
  refine lv_aload_n hx hb dL_law_1275 rfl (lv_at hl 3 rfl) ?_
  refine lv_iload_n hx hb dL_law_1276 rfl (lv_at hl 0 rfl) ?_
  refine lv_iconst (v := 2) hx hb dL_law_1277 (by decide) ?_
  refine lv_iadd hx hb dL_law_1278 ?_
  refine lv_cg (y := nI (5 * k + 2)) (by rw [show (2 : Int32) = nI 2 from rfl]; exact nI_add _ _) ?_
  refine va_sld hx hb hX hbl hbA hS (vp_in_nI (by omega) (by omega)) dL_law_1279 ?_
  refine lv_cg (y := xs (5 * k + 2)) (by rw [nI_clamp (by omega)]) ?_
  refine lv_aload_n hx hb dL_law_1280 rfl (lv_at hl 3 rfl) ?_
  refine lv_iload_n hx hb dL_law_1281 rfl (lv_at hl 0 rfl) ?_
  refine lv_iconst (v := 3) hx hb dL_law_1282 (by decide) ?_
  refine lv_iadd hx hb dL_law_1283 ?_
  refine lv_cg (y := nI (5 * k + 3)) (by rw [show (3 : Int32) = nI 3 from rfl]; exact nI_add _ _) ?_
  refine va_sld hx hb hX hbl hbA hS (vp_in_nI (by omega) (by omega)) dL_law_1284 ?_
  refine lv_cg (y := xs (5 * k + 3)) (by rw [nI_clamp (by omega)]) ?_
  refine va_calli (va_runV (As := [.int (xs (5 * k + 1)), .int (xs (5 * k + 2)), .int (xs (5 * k + 3))]) (rest := []) ⟨hx, hb, hml, hown, hg⟩ (k_X11_lay l dC dI G _ ax hi T Y fa W0 W1 W2 N B N1 B1 N2 B2 K S M E Z (xs (5 * k + 1)) (xs (5 * k + 2)) (xs (5 * k + 3))) (kwV hg mfX11_lay wt_1260 ⟨Nat.le_of_ble_eq_true rfl, Nat.le_of_ble_eq_true rfl⟩) (preVI hK hMI (hMI.recv hK)) rfl rfl hl.1 rfl (lv_room (Nat.le_of_ble_eq_true rfl)) dL_law_1285 ⟨Nat.le_of_ble_eq_true rfl, Nat.le_of_ble_eq_true rfl⟩) hS (fun q _ h => ad_A hAx hA (by decide) hS q h) (ad_A hAx hA (by decide) hS) (fun r2 u2 t2 H2 locs2 ht2 hv2 w2 hB2 hz2 hk2 hS => ?_)
  have hXI := hXI.kept (fr_ad (lo := 112) (hi := 129) hi (by decide) (by decide) (by decide) hk2)
  have hMI : X11I dC dI G ax T Y fa W0 W1 W2 N B N1 B1 N2 B2 K S M E Z H2 := by rw [← ht2]; exact hB2
  refine W.widen (k := 129) (n := 4562) (by omega) (by omega) ?_
  refine lv_pop hx hb dL_law_1288 rfl ?_
  refine lv_goto (tgt := 1381) hx hb dL_law_1289 (by decide) ?_
  exact kk _ _ ⟨_, _, _, _, _, _, _, _, _, _, _, _, _, _, _, _, _, hXI, hMI⟩ hS

set_option maxHeartbeats 1000000 in
set_option maxRecDepth 100000 in
theorem lc_read {p : Program} {l : Launch} {e : Env} {s : State} {m : MethodId} {below : List Frame} {meth : Method} {c : Code} {b L : Nat} {xs : Nat → Int32} {dC : Nat → ClassId} {dI : Nat → Nat → Nat} {G : Nat → ClassId} {ax adK adV : Nat → Nat} {A : Nat → Prop} {Q : State → Prop} (C1 : lw_C p s m c b L xs dC dI G ax adK adV A) {k : Nat} (hk : 5 * k + 5 ≤ L) (hL : L ≤ 2560) {H : Heap} {locs : List Loc} {ls : Array Slot} (hI : LI dC dI G ax H) (hS : va_S A s.heap H locs) (hl : lv_has ls 4 [(3, .int (nI (5 * k))), (2, .ref (ax 112)), (1, .ref (ax 0)), (0, .ref b)]) (kk : ∀ (H : Heap) (locs : List Loc), LI dC dI G ax H → va_S A s.heap H locs → W p l e room_1 s m #[Value.ref b] below meth c H locs 129 4562 Q (F0 m 1381 ls [])) : W p l e room_1 s m #[Value.ref b] below meth c H locs 129 4562 Q (F0 m 1292 ls []) := by
  obtain ⟨hx, hb, hml, hown, hg, hX, hbl, hbA, hK, hi, hAx, hA, hSS⟩ := C1
  obtain ⟨T, Y, fa, W0, W1, W2, N, B, N1, B1, N2, B2, K, S, M, E, Z, hXI, hMI⟩ := hI
  refine lv_aload_n hx hb dL_law_1292 rfl (lv_at hl 2 rfl) ?_
  refine lv_aload_n hx hb dL_law_1293 rfl (lv_at hl 3 rfl) ?_
  refine lv_iload_n hx hb dL_law_1294 rfl (lv_at hl 0 rfl) ?_
  refine lv_iconst (v := 1) hx hb dL_law_1295 (by decide) ?_
  refine lv_iadd hx hb dL_law_1296 ?_
  refine lv_cg (y := nI (5 * k + 1)) (by rw [show (1 : Int32) = nI 1 from rfl]; exact nI_add _ _) ?_
  refine va_sld hx hb hX hbl hbA hS (vp_in_nI (by omega) (by omega)) dL_law_1297 ?_
  refine lv_cg (y := xs (5 * k + 1)) (by rw [nI_clamp (by omega)]) ?_
  refine lv_aload_n hx hb dL_law_1298 rfl (lv_at hl 3 rfl) ?_
  refine lv_iload_n hx hb dL_law_1299 rfl (lv_at hl 0 rfl) ?_
  refine lv_iconst (v := 2) hx hb dL_law_1300 (by decide) ?_
  refine lv_iadd hx hb dL_law_1301 ?_
  refine lv_cg (y := nI (5 * k + 2)) (by rw [show (2 : Int32) = nI 2 from rfl]; exact nI_add _ _) ?_
  refine va_sld hx hb hX hbl hbA hS (vp_in_nI (by omega) (by omega)) dL_law_1302 ?_
  refine lv_cg (y := xs (5 * k + 2)) (by rw [nI_clamp (by omega)]) ?_
  refine lv_aload_n hx hb dL_law_1303 rfl (lv_at hl 3 rfl) ?_
  refine lv_iload_n hx hb dL_law_1304 rfl (lv_at hl 0 rfl) ?_
  refine lv_iconst (v := 3) hx hb dL_law_1305 (by decide) ?_
  refine lv_iadd hx hb dL_law_1306 ?_
  refine lv_cg (y := nI (5 * k + 3)) (by rw [show (3 : Int32) = nI 3 from rfl]; exact nI_add _ _) ?_
  refine va_sld hx hb hX hbl hbA hS (vp_in_nI (by omega) (by omega)) dL_law_1307 ?_
  refine lv_cg (y := xs (5 * k + 3)) (by rw [nI_clamp (by omega)]) ?_
  refine lv_aload_n hx hb dL_law_1308 rfl (lv_at hl 3 rfl) ?_
  refine lv_iload_n hx hb dL_law_1309 rfl (lv_at hl 0 rfl) ?_
  refine lv_iconst (v := 4) hx hb dL_law_1310 (by decide) ?_
  refine lv_iadd hx hb dL_law_1311 ?_
  refine lv_cg (y := nI (5 * k + 4)) (by rw [show (4 : Int32) = nI 4 from rfl]; exact nI_add _ _) ?_
  refine va_sld hx hb hX hbl hbA hS (vp_in_nI (by omega) (by omega)) dL_law_1312 ?_
  refine lv_cg (y := xs (5 * k + 4)) (by rw [nI_clamp (by omega)]) ?_
  refine va_calli (va_runV (As := [.int (xs (5 * k + 1)), .int (xs (5 * k + 2)), .int (xs (5 * k + 3)), .int (xs (5 * k + 4))]) (rest := []) ⟨hx, hb, hml, hown, hg⟩ (k_X10_read l dC dI G _ ax hi T Y fa W0 W1 W2 N B N1 B1 N2 B2 K S M E Z (xs (5 * k + 1)) (xs (5 * k + 2)) (xs (5 * k + 3)) (xs (5 * k + 4))) (kwV hg mfX10_read wt_847 ⟨Nat.le_of_ble_eq_true rfl, Nat.le_of_ble_eq_true rfl⟩) (preVI hK hXI (hXI.recv hK)) rfl rfl hl.1 rfl (lv_room (Nat.le_of_ble_eq_true rfl)) dL_law_1313 ⟨Nat.le_of_ble_eq_true rfl, Nat.le_of_ble_eq_true rfl⟩) hS (fun q _ h => ad_A hAx hA (by decide) hS q h) (ad_A hAx hA (by decide) hS) (fun r1 u1 t1 H1 locs1 ht1 hv1 w1 hB1 hz1 hk1 hS => ?_)
  have hMI := hMI.kept (fr_ad (lo := 0) (hi := 112) hi (by decide) (by decide) (by decide) hk1)
  have hXI : X10I dC dI G ax T Y fa W0 W1 W2 N B N1 B1 N2 B2 K S M E Z H1 := by rw [← ht1]; exact hB1
  refine W.widen (k := 129) (n := 4562) (by omega) (by omega) ?_
  refine lv_pop hx hb dL_law_1316 rfl ?_
  refine lv_aload_n hx hb dL_law_1317 rfl (lv_at hl 1 rfl) ?_
  refine lv_aload_n hx hb dL_law_1318 rfl (lv_at hl 3 rfl) ?_
  refine lv_iload_n hx hb dL_law_1319 rfl (lv_at hl 0 rfl) ?_
  refine lv_iconst (v := 1) hx hb dL_law_1320 (by decide) ?_
  refine lv_iadd hx hb dL_law_1321 ?_
  refine lv_cg (y := nI (5 * k + 1)) (by rw [show (1 : Int32) = nI 1 from rfl]; exact nI_add _ _) ?_
  refine va_sld hx hb hX hbl hbA hS (vp_in_nI (by omega) (by omega)) dL_law_1322 ?_
  refine lv_cg (y := xs (5 * k + 1)) (by rw [nI_clamp (by omega)]) ?_
  refine lv_aload_n hx hb dL_law_1323 rfl (lv_at hl 3 rfl) ?_
  refine lv_iload_n hx hb dL_law_1324 rfl (lv_at hl 0 rfl) ?_
  refine lv_iconst (v := 2) hx hb dL_law_1325 (by decide) ?_
  refine lv_iadd hx hb dL_law_1326 ?_
  refine lv_cg (y := nI (5 * k + 2)) (by rw [show (2 : Int32) = nI 2 from rfl]; exact nI_add _ _) ?_
  refine va_sld hx hb hX hbl hbA hS (vp_in_nI (by omega) (by omega)) dL_law_1327 ?_
  refine lv_cg (y := xs (5 * k + 2)) (by rw [nI_clamp (by omega)]) ?_
  refine lv_aload_n hx hb dL_law_1328 rfl (lv_at hl 3 rfl) ?_
  refine lv_iload_n hx hb dL_law_1329 rfl (lv_at hl 0 rfl) ?_
  refine lv_iconst (v := 3) hx hb dL_law_1330 (by decide) ?_
  refine lv_iadd hx hb dL_law_1331 ?_
  refine lv_cg (y := nI (5 * k + 3)) (by rw [show (3 : Int32) = nI 3 from rfl]; exact nI_add _ _) ?_
  refine va_sld hx hb hX hbl hbA hS (vp_in_nI (by omega) (by omega)) dL_law_1332 ?_
  refine lv_cg (y := xs (5 * k + 3)) (by rw [nI_clamp (by omega)]) ?_
  refine lv_aload_n hx hb dL_law_1333 rfl (lv_at hl 3 rfl) ?_
  refine lv_iload_n hx hb dL_law_1334 rfl (lv_at hl 0 rfl) ?_
  refine lv_iconst (v := 4) hx hb dL_law_1335 (by decide) ?_
  refine lv_iadd hx hb dL_law_1336 ?_
  refine lv_cg (y := nI (5 * k + 4)) (by rw [show (4 : Int32) = nI 4 from rfl]; exact nI_add _ _) ?_
  refine va_sld hx hb hX hbl hbA hS (vp_in_nI (by omega) (by omega)) dL_law_1337 ?_
  refine lv_cg (y := xs (5 * k + 4)) (by rw [nI_clamp (by omega)]) ?_
  refine va_calli (va_runV (As := [.int (xs (5 * k + 1)), .int (xs (5 * k + 2)), .int (xs (5 * k + 3)), .int (xs (5 * k + 4))]) (rest := []) ⟨hx, hb, hml, hown, hg⟩ (k_X11_readW l dC dI G _ ax hi T Y fa W0 W1 W2 N B N1 B1 N2 B2 K S M E Z (xs (5 * k + 1)) (xs (5 * k + 2)) (xs (5 * k + 3)) (xs (5 * k + 4))) (kwV hg mfX11_read wt_1264 ⟨Nat.le_of_ble_eq_true rfl, Nat.le_of_ble_eq_true rfl⟩) (preVI hK hMI (hMI.recv hK)) rfl rfl hl.1 rfl (lv_room (Nat.le_of_ble_eq_true rfl)) dL_law_1338 ⟨Nat.le_of_ble_eq_true rfl, Nat.le_of_ble_eq_true rfl⟩) hS (fun q _ h => ad_A hAx hA (by decide) hS q h) (ad_A hAx hA (by decide) hS) (fun r2 u2 t2 H2 locs2 ht2 hv2 w2 hB2 hz2 hk2 hS => ?_)
  have hXI := hXI.kept (fr_ad (lo := 112) (hi := 129) hi (by decide) (by decide) (by decide) hk2)
  have hMI : X11I dC dI G ax T Y fa W0 W1 W2 N B N1 B1 N2 B2 K S M E Z H2 := by rw [← ht2]; exact hB2
  refine W.widen (k := 129) (n := 4562) (by omega) (by omega) ?_
  refine lv_pop hx hb dL_law_1341 rfl ?_
  refine lv_goto (tgt := 1381) hx hb dL_law_1342 (by decide) ?_
  exact kk _ _ ⟨_, _, _, _, _, _, _, _, _, _, _, _, _, _, _, _, _, hXI, hMI⟩ hS

set_option maxHeartbeats 1000000 in
set_option maxRecDepth 100000 in
theorem lc_torn {p : Program} {l : Launch} {e : Env} {s : State} {m : MethodId} {below : List Frame} {meth : Method} {c : Code} {b L : Nat} {xs : Nat → Int32} {dC : Nat → ClassId} {dI : Nat → Nat → Nat} {G : Nat → ClassId} {ax adK adV : Nat → Nat} {A : Nat → Prop} {Q : State → Prop} (C1 : lw_C p s m c b L xs dC dI G ax adK adV A) {k : Nat} (hk : 5 * k + 5 ≤ L) (hL : L ≤ 2560) {H : Heap} {locs : List Loc} {ls : Array Slot} (hI : LI dC dI G ax H) (hS : va_S A s.heap H locs) (hl : lv_has ls 4 [(3, .int (nI (5 * k))), (2, .ref (ax 112)), (1, .ref (ax 0)), (0, .ref b)]) (kk : ∀ (H : Heap) (locs : List Loc), LI dC dI G ax H → va_S A s.heap H locs → W p l e room_1 s m #[Value.ref b] below meth c H locs 129 4562 Q (F0 m 1381 ls [])) : W p l e room_1 s m #[Value.ref b] below meth c H locs 129 4562 Q (F0 m 1345 ls []) := by
  obtain ⟨hx, hb, hml, hown, hg, hX, hbl, hbA, hK, hi, hAx, hA, hSS⟩ := C1
  obtain ⟨T, Y, fa, W0, W1, W2, N, B, N1, B1, N2, B2, K, S, M, E, Z, hXI, hMI⟩ := hI
  refine lv_aload_n hx hb dL_law_1345 rfl (lv_at hl 2 rfl) ?_
  refine va_calli (va_runV (As := []) (rest := []) ⟨hx, hb, hml, hown, hg⟩ (k_X10_torn l dC dI G _ ax hi T Y fa W0 W1 W2 N B N1 B1 N2 B2 K S M E Z) (kwV hg mfX10_torn wt_856 ⟨Nat.le_of_ble_eq_true rfl, Nat.le_of_ble_eq_true rfl⟩) (preVI hK hXI (hXI.recv hK)) rfl rfl hl.1 rfl (lv_room (Nat.le_of_ble_eq_true rfl)) dL_law_1346 ⟨Nat.le_of_ble_eq_true rfl, Nat.le_of_ble_eq_true rfl⟩) hS (fun q _ h => ad_A hAx hA (by decide) hS q h) (ad_A hAx hA (by decide) hS) (fun r1 u1 t1 H1 locs1 ht1 hv1 w1 hB1 hz1 hk1 hS => ?_)
  have hMI := hMI.kept (fr_ad (lo := 0) (hi := 112) hi (by decide) (by decide) (by decide) hk1)
  have hXI : X10I dC dI G ax T Y fa W0 W1 W2 N B N1 B1 N2 B2 K S M E Z H1 := by rw [← ht1]; exact hB1
  refine W.widen (k := 129) (n := 4562) (by omega) (by omega) ?_
  refine lv_pop hx hb dL_law_1349 rfl ?_
  refine lv_aload_n hx hb dL_law_1350 rfl (lv_at hl 1 rfl) ?_
  refine va_calli (va_runV (As := []) (rest := []) ⟨hx, hb, hml, hown, hg⟩ (k_X11_torn l dC dI G _ ax hi T Y fa W0 W1 W2 N B N1 B1 N2 B2 K S M E Z) (kwV hg mfX11_torn wt_1268 ⟨Nat.le_of_ble_eq_true rfl, Nat.le_of_ble_eq_true rfl⟩) (preVI hK hMI (hMI.recv hK)) rfl rfl hl.1 rfl (lv_room (Nat.le_of_ble_eq_true rfl)) dL_law_1351 ⟨Nat.le_of_ble_eq_true rfl, Nat.le_of_ble_eq_true rfl⟩) hS (fun q _ h => ad_A hAx hA (by decide) hS q h) (ad_A hAx hA (by decide) hS) (fun r2 u2 t2 H2 locs2 ht2 hv2 w2 hB2 hz2 hk2 hS => ?_)
  have hXI := hXI.kept (fr_ad (lo := 112) (hi := 129) hi (by decide) (by decide) (by decide) hk2)
  have hMI : X11I dC dI G ax T Y fa W0 W1 W2 N B N1 B1 N2 B2 K S M E Z H2 := by rw [← ht2]; exact hB2
  refine W.widen (k := 129) (n := 4562) (by omega) (by omega) ?_
  refine lv_pop hx hb dL_law_1354 rfl ?_
  refine lv_goto (tgt := 1381) hx hb dL_law_1355 (by decide) ?_
  exact kk _ _ ⟨_, _, _, _, _, _, _, _, _, _, _, _, _, _, _, _, _, hXI, hMI⟩ hS

set_option maxHeartbeats 1000000 in
set_option maxRecDepth 100000 in
theorem lc_count {p : Program} {l : Launch} {e : Env} {s : State} {m : MethodId} {below : List Frame} {meth : Method} {c : Code} {b L : Nat} {xs : Nat → Int32} {dC : Nat → ClassId} {dI : Nat → Nat → Nat} {G : Nat → ClassId} {ax adK adV : Nat → Nat} {A : Nat → Prop} {Q : State → Prop} (C1 : lw_C p s m c b L xs dC dI G ax adK adV A) {k : Nat} (hk : 5 * k + 5 ≤ L) (hL : L ≤ 2560) {H : Heap} {locs : List Loc} {ls : Array Slot} (hI : LI dC dI G ax H) (hS : va_S A s.heap H locs) (hl : lv_has ls 4 [(3, .int (nI (5 * k))), (2, .ref (ax 112)), (1, .ref (ax 0)), (0, .ref b)]) (kk : ∀ (H : Heap) (locs : List Loc), LI dC dI G ax H → va_S A s.heap H locs → W p l e room_1 s m #[Value.ref b] below meth c H locs 129 4562 Q (F0 m 1381 ls [])) : W p l e room_1 s m #[Value.ref b] below meth c H locs 129 4562 Q (F0 m 1358 ls []) := by
  obtain ⟨hx, hb, hml, hown, hg, hX, hbl, hbA, hK, hi, hAx, hA, hSS⟩ := C1
  obtain ⟨T, Y, fa, W0, W1, W2, N, B, N1, B1, N2, B2, K, S, M, E, Z, hXI, hMI⟩ := hI
  refine lv_aload_n hx hb dL_law_1358 rfl (lv_at hl 2 rfl) ?_
  refine lv_aload_n hx hb dL_law_1359 rfl (lv_at hl 3 rfl) ?_
  refine lv_iload_n hx hb dL_law_1360 rfl (lv_at hl 0 rfl) ?_
  refine lv_iconst (v := 1) hx hb dL_law_1361 (by decide) ?_
  refine lv_iadd hx hb dL_law_1362 ?_
  refine lv_cg (y := nI (5 * k + 1)) (by rw [show (1 : Int32) = nI 1 from rfl]; exact nI_add _ _) ?_
  refine va_sld hx hb hX hbl hbA hS (vp_in_nI (by omega) (by omega)) dL_law_1363 ?_
  refine lv_cg (y := xs (5 * k + 1)) (by rw [nI_clamp (by omega)]) ?_
  refine va_calli (va_runV (As := [.int (xs (5 * k + 1))]) (rest := []) ⟨hx, hb, hml, hown, hg⟩ (k_X10_count l dC dI G _ ax hi T Y fa W0 W1 W2 N B N1 B1 N2 B2 K S M E Z (xs (5 * k + 1))) (kwV hg mfX10_count wt_860 ⟨Nat.le_of_ble_eq_true rfl, Nat.le_of_ble_eq_true rfl⟩) (preVI hK hXI (hXI.recv hK)) rfl rfl hl.1 rfl (lv_room (Nat.le_of_ble_eq_true rfl)) dL_law_1364 ⟨Nat.le_of_ble_eq_true rfl, Nat.le_of_ble_eq_true rfl⟩) hS (fun q _ h => ad_A hAx hA (by decide) hS q h) (ad_A hAx hA (by decide) hS) (fun r1 u1 t1 H1 locs1 ht1 hv1 w1 hB1 hz1 hk1 hS => ?_)
  have hMI := hMI.kept (fr_ad (lo := 0) (hi := 112) hi (by decide) (by decide) (by decide) hk1)
  have hXI : X10I dC dI G ax T Y fa W0 W1 W2 N B N1 B1 N2 B2 K S M E Z H1 := by rw [← ht1]; exact hB1
  refine W.widen (k := 129) (n := 4562) (by omega) (by omega) ?_
  refine lv_pop hx hb dL_law_1367 rfl ?_
  refine lv_aload_n hx hb dL_law_1368 rfl (lv_at hl 1 rfl) ?_
  refine lv_aload_n hx hb dL_law_1369 rfl (lv_at hl 3 rfl) ?_
  refine lv_iload_n hx hb dL_law_1370 rfl (lv_at hl 0 rfl) ?_
  refine lv_iconst (v := 1) hx hb dL_law_1371 (by decide) ?_
  refine lv_iadd hx hb dL_law_1372 ?_
  refine lv_cg (y := nI (5 * k + 1)) (by rw [show (1 : Int32) = nI 1 from rfl]; exact nI_add _ _) ?_
  refine va_sld hx hb hX hbl hbA hS (vp_in_nI (by omega) (by omega)) dL_law_1373 ?_
  refine lv_cg (y := xs (5 * k + 1)) (by rw [nI_clamp (by omega)]) ?_
  refine va_calli (va_runV (As := [.int (xs (5 * k + 1))]) (rest := []) ⟨hx, hb, hml, hown, hg⟩ (k_X11_count l dC dI G _ ax hi T Y fa W0 W1 W2 N B N1 B1 N2 B2 K S M E Z (xs (5 * k + 1))) (kwV hg mfX11_count wt_1272 ⟨Nat.le_of_ble_eq_true rfl, Nat.le_of_ble_eq_true rfl⟩) (preVI hK hMI (hMI.recv hK)) rfl rfl hl.1 rfl (lv_room (Nat.le_of_ble_eq_true rfl)) dL_law_1374 ⟨Nat.le_of_ble_eq_true rfl, Nat.le_of_ble_eq_true rfl⟩) hS (fun q _ h => ad_A hAx hA (by decide) hS q h) (ad_A hAx hA (by decide) hS) (fun r2 u2 t2 H2 locs2 ht2 hv2 w2 hB2 hz2 hk2 hS => ?_)
  have hXI := hXI.kept (fr_ad (lo := 112) (hi := 129) hi (by decide) (by decide) (by decide) hk2)
  have hMI : X11I dC dI G ax T Y fa W0 W1 W2 N B N1 B1 N2 B2 K S M E Z H2 := by rw [← ht2]; exact hB2
  refine W.widen (k := 129) (n := 4562) (by omega) (by omega) ?_
  refine lv_pop hx hb dL_law_1377 rfl ?_
  refine lv_goto (tgt := 1381) hx hb dL_law_1378 (by decide) ?_
  exact kk _ _ ⟨_, _, _, _, _, _, _, _, _, _, _, _, _, _, _, _, _, hXI, hMI⟩ hS

def tmS (i : Nat) : Term := Term.string "AsleepPass$Reader" (strL.getD i (0, "")).1
theorem sL0 {A0 : Array Value} {s : State} (hs : ∀ q ∈ flatC (Jvm.Cond.and given_1 narrow_1), q.before A0 s = true) : (Cond.exactly (tmS 0) "java/lang/String").before A0 s = true ∧ (Cond.eq (.field (tmS 0) "java/lang/String" "coder" "B") (.int 0)).before A0 s = true ∧ (Cond.arrayOf (.field (tmS 0) "java/lang/String" "value" "[B") .byte).before A0 s = true ∧ (Cond.eq (.length (.field (tmS 0) "java/lang/String" "value" "[B")) (.int (Int32.ofNat (strLen.getD 0 0)))).before A0 s = true ∧ ∀ j : Nat, j < strLen.getD 0 0 → (Cond.eq (.elem (.field (tmS 0) "java/lang/String" "value" "[B") (.int (Int32.ofNat j))) (.int ((strByt.getD 0 []).getD j 0))).before A0 s = true := by
  refine ⟨hs _ (by decide +kernel), hs _ (by decide +kernel), hs _ (by decide +kernel), hs _ (by decide +kernel), fun j hj => ?_⟩
  have hj : j < 5 := hj
  rcases (show j = 0 ∨ j = 1 ∨ j = 2 ∨ j = 3 ∨ j = 4 by omega) with h | h | h | h | h
  · subst h; exact hs _ (by decide +kernel)
  · subst h; exact hs _ (by decide +kernel)
  · subst h; exact hs _ (by decide +kernel)
  · subst h; exact hs _ (by decide +kernel)
  · subst h; exact hs _ (by decide +kernel)
theorem sL1 {A0 : Array Value} {s : State} (hs : ∀ q ∈ flatC (Jvm.Cond.and given_1 narrow_1), q.before A0 s = true) : (Cond.exactly (tmS 1) "java/lang/String").before A0 s = true ∧ (Cond.eq (.field (tmS 1) "java/lang/String" "coder" "B") (.int 0)).before A0 s = true ∧ (Cond.arrayOf (.field (tmS 1) "java/lang/String" "value" "[B") .byte).before A0 s = true ∧ (Cond.eq (.length (.field (tmS 1) "java/lang/String" "value" "[B")) (.int (Int32.ofNat (strLen.getD 1 0)))).before A0 s = true ∧ ∀ j : Nat, j < strLen.getD 1 0 → (Cond.eq (.elem (.field (tmS 1) "java/lang/String" "value" "[B") (.int (Int32.ofNat j))) (.int ((strByt.getD 1 []).getD j 0))).before A0 s = true := by
  refine ⟨hs _ (by decide +kernel), hs _ (by decide +kernel), hs _ (by decide +kernel), hs _ (by decide +kernel), fun j hj => ?_⟩
  have hj : j < 7 := hj
  rcases (show j = 0 ∨ j = 1 ∨ j = 2 ∨ j = 3 ∨ j = 4 ∨ j = 5 ∨ j = 6 by omega) with h | h | h | h | h | h | h
  · subst h; exact hs _ (by decide +kernel)
  · subst h; exact hs _ (by decide +kernel)
  · subst h; exact hs _ (by decide +kernel)
  · subst h; exact hs _ (by decide +kernel)
  · subst h; exact hs _ (by decide +kernel)
  · subst h; exact hs _ (by decide +kernel)
  · subst h; exact hs _ (by decide +kernel)
theorem sL2 {A0 : Array Value} {s : State} (hs : ∀ q ∈ flatC (Jvm.Cond.and given_1 narrow_1), q.before A0 s = true) : (Cond.exactly (tmS 2) "java/lang/String").before A0 s = true ∧ (Cond.eq (.field (tmS 2) "java/lang/String" "coder" "B") (.int 0)).before A0 s = true ∧ (Cond.arrayOf (.field (tmS 2) "java/lang/String" "value" "[B") .byte).before A0 s = true ∧ (Cond.eq (.length (.field (tmS 2) "java/lang/String" "value" "[B")) (.int (Int32.ofNat (strLen.getD 2 0)))).before A0 s = true ∧ ∀ j : Nat, j < strLen.getD 2 0 → (Cond.eq (.elem (.field (tmS 2) "java/lang/String" "value" "[B") (.int (Int32.ofNat j))) (.int ((strByt.getD 2 []).getD j 0))).before A0 s = true := by
  refine ⟨hs _ (by decide +kernel), hs _ (by decide +kernel), hs _ (by decide +kernel), hs _ (by decide +kernel), fun j hj => ?_⟩
  have hj : j < 6 := hj
  rcases (show j = 0 ∨ j = 1 ∨ j = 2 ∨ j = 3 ∨ j = 4 ∨ j = 5 by omega) with h | h | h | h | h | h
  · subst h; exact hs _ (by decide +kernel)
  · subst h; exact hs _ (by decide +kernel)
  · subst h; exact hs _ (by decide +kernel)
  · subst h; exact hs _ (by decide +kernel)
  · subst h; exact hs _ (by decide +kernel)
  · subst h; exact hs _ (by decide +kernel)
theorem sL3 {A0 : Array Value} {s : State} (hs : ∀ q ∈ flatC (Jvm.Cond.and given_1 narrow_1), q.before A0 s = true) : (Cond.exactly (tmS 3) "java/lang/String").before A0 s = true ∧ (Cond.eq (.field (tmS 3) "java/lang/String" "coder" "B") (.int 0)).before A0 s = true ∧ (Cond.arrayOf (.field (tmS 3) "java/lang/String" "value" "[B") .byte).before A0 s = true ∧ (Cond.eq (.length (.field (tmS 3) "java/lang/String" "value" "[B")) (.int (Int32.ofNat (strLen.getD 3 0)))).before A0 s = true ∧ ∀ j : Nat, j < strLen.getD 3 0 → (Cond.eq (.elem (.field (tmS 3) "java/lang/String" "value" "[B") (.int (Int32.ofNat j))) (.int ((strByt.getD 3 []).getD j 0))).before A0 s = true := by
  refine ⟨hs _ (by decide +kernel), hs _ (by decide +kernel), hs _ (by decide +kernel), hs _ (by decide +kernel), fun j hj => ?_⟩
  have hj : j < 5 := hj
  rcases (show j = 0 ∨ j = 1 ∨ j = 2 ∨ j = 3 ∨ j = 4 by omega) with h | h | h | h | h
  · subst h; exact hs _ (by decide +kernel)
  · subst h; exact hs _ (by decide +kernel)
  · subst h; exact hs _ (by decide +kernel)
  · subst h; exact hs _ (by decide +kernel)
  · subst h; exact hs _ (by decide +kernel)
theorem sL4 {A0 : Array Value} {s : State} (hs : ∀ q ∈ flatC (Jvm.Cond.and given_1 narrow_1), q.before A0 s = true) : (Cond.exactly (tmS 4) "java/lang/String").before A0 s = true ∧ (Cond.eq (.field (tmS 4) "java/lang/String" "coder" "B") (.int 0)).before A0 s = true ∧ (Cond.arrayOf (.field (tmS 4) "java/lang/String" "value" "[B") .byte).before A0 s = true ∧ (Cond.eq (.length (.field (tmS 4) "java/lang/String" "value" "[B")) (.int (Int32.ofNat (strLen.getD 4 0)))).before A0 s = true ∧ ∀ j : Nat, j < strLen.getD 4 0 → (Cond.eq (.elem (.field (tmS 4) "java/lang/String" "value" "[B") (.int (Int32.ofNat j))) (.int ((strByt.getD 4 []).getD j 0))).before A0 s = true := by
  refine ⟨hs _ (by decide +kernel), hs _ (by decide +kernel), hs _ (by decide +kernel), hs _ (by decide +kernel), fun j hj => ?_⟩
  have hj : j < 6 := hj
  rcases (show j = 0 ∨ j = 1 ∨ j = 2 ∨ j = 3 ∨ j = 4 ∨ j = 5 by omega) with h | h | h | h | h | h
  · subst h; exact hs _ (by decide +kernel)
  · subst h; exact hs _ (by decide +kernel)
  · subst h; exact hs _ (by decide +kernel)
  · subst h; exact hs _ (by decide +kernel)
  · subst h; exact hs _ (by decide +kernel)
  · subst h; exact hs _ (by decide +kernel)
theorem sL5 {A0 : Array Value} {s : State} (hs : ∀ q ∈ flatC (Jvm.Cond.and given_1 narrow_1), q.before A0 s = true) : (Cond.exactly (tmS 5) "java/lang/String").before A0 s = true ∧ (Cond.eq (.field (tmS 5) "java/lang/String" "coder" "B") (.int 0)).before A0 s = true ∧ (Cond.arrayOf (.field (tmS 5) "java/lang/String" "value" "[B") .byte).before A0 s = true ∧ (Cond.eq (.length (.field (tmS 5) "java/lang/String" "value" "[B")) (.int (Int32.ofNat (strLen.getD 5 0)))).before A0 s = true ∧ ∀ j : Nat, j < strLen.getD 5 0 → (Cond.eq (.elem (.field (tmS 5) "java/lang/String" "value" "[B") (.int (Int32.ofNat j))) (.int ((strByt.getD 5 []).getD j 0))).before A0 s = true := by
  refine ⟨hs _ (by decide +kernel), hs _ (by decide +kernel), hs _ (by decide +kernel), hs _ (by decide +kernel), fun j hj => ?_⟩
  have hj : j < 8 := hj
  rcases (show j = 0 ∨ j = 1 ∨ j = 2 ∨ j = 3 ∨ j = 4 ∨ j = 5 ∨ j = 6 ∨ j = 7 by omega) with h | h | h | h | h | h | h | h
  · subst h; exact hs _ (by decide +kernel)
  · subst h; exact hs _ (by decide +kernel)
  · subst h; exact hs _ (by decide +kernel)
  · subst h; exact hs _ (by decide +kernel)
  · subst h; exact hs _ (by decide +kernel)
  · subst h; exact hs _ (by decide +kernel)
  · subst h; exact hs _ (by decide +kernel)
  · subst h; exact hs _ (by decide +kernel)
theorem sL6 {A0 : Array Value} {s : State} (hs : ∀ q ∈ flatC (Jvm.Cond.and given_1 narrow_1), q.before A0 s = true) : (Cond.exactly (tmS 6) "java/lang/String").before A0 s = true ∧ (Cond.eq (.field (tmS 6) "java/lang/String" "coder" "B") (.int 0)).before A0 s = true ∧ (Cond.arrayOf (.field (tmS 6) "java/lang/String" "value" "[B") .byte).before A0 s = true ∧ (Cond.eq (.length (.field (tmS 6) "java/lang/String" "value" "[B")) (.int (Int32.ofNat (strLen.getD 6 0)))).before A0 s = true ∧ ∀ j : Nat, j < strLen.getD 6 0 → (Cond.eq (.elem (.field (tmS 6) "java/lang/String" "value" "[B") (.int (Int32.ofNat j))) (.int ((strByt.getD 6 []).getD j 0))).before A0 s = true := by
  refine ⟨hs _ (by decide +kernel), hs _ (by decide +kernel), hs _ (by decide +kernel), hs _ (by decide +kernel), fun j hj => ?_⟩
  have hj : j < 4 := hj
  rcases (show j = 0 ∨ j = 1 ∨ j = 2 ∨ j = 3 by omega) with h | h | h | h
  · subst h; exact hs _ (by decide +kernel)
  · subst h; exact hs _ (by decide +kernel)
  · subst h; exact hs _ (by decide +kernel)
  · subst h; exact hs _ (by decide +kernel)
theorem sL7 {A0 : Array Value} {s : State} (hs : ∀ q ∈ flatC (Jvm.Cond.and given_1 narrow_1), q.before A0 s = true) : (Cond.exactly (tmS 7) "java/lang/String").before A0 s = true ∧ (Cond.eq (.field (tmS 7) "java/lang/String" "coder" "B") (.int 0)).before A0 s = true ∧ (Cond.arrayOf (.field (tmS 7) "java/lang/String" "value" "[B") .byte).before A0 s = true ∧ (Cond.eq (.length (.field (tmS 7) "java/lang/String" "value" "[B")) (.int (Int32.ofNat (strLen.getD 7 0)))).before A0 s = true ∧ ∀ j : Nat, j < strLen.getD 7 0 → (Cond.eq (.elem (.field (tmS 7) "java/lang/String" "value" "[B") (.int (Int32.ofNat j))) (.int ((strByt.getD 7 []).getD j 0))).before A0 s = true := by
  refine ⟨hs _ (by decide +kernel), hs _ (by decide +kernel), hs _ (by decide +kernel), hs _ (by decide +kernel), fun j hj => ?_⟩
  have hj : j < 4 := hj
  rcases (show j = 0 ∨ j = 1 ∨ j = 2 ∨ j = 3 by omega) with h | h | h | h
  · subst h; exact hs _ (by decide +kernel)
  · subst h; exact hs _ (by decide +kernel)
  · subst h; exact hs _ (by decide +kernel)
  · subst h; exact hs _ (by decide +kernel)
theorem sL8 {A0 : Array Value} {s : State} (hs : ∀ q ∈ flatC (Jvm.Cond.and given_1 narrow_1), q.before A0 s = true) : (Cond.exactly (tmS 8) "java/lang/String").before A0 s = true ∧ (Cond.eq (.field (tmS 8) "java/lang/String" "coder" "B") (.int 0)).before A0 s = true ∧ (Cond.arrayOf (.field (tmS 8) "java/lang/String" "value" "[B") .byte).before A0 s = true ∧ (Cond.eq (.length (.field (tmS 8) "java/lang/String" "value" "[B")) (.int (Int32.ofNat (strLen.getD 8 0)))).before A0 s = true ∧ ∀ j : Nat, j < strLen.getD 8 0 → (Cond.eq (.elem (.field (tmS 8) "java/lang/String" "value" "[B") (.int (Int32.ofNat j))) (.int ((strByt.getD 8 []).getD j 0))).before A0 s = true := by
  refine ⟨hs _ (by decide +kernel), hs _ (by decide +kernel), hs _ (by decide +kernel), hs _ (by decide +kernel), fun j hj => ?_⟩
  have hj : j < 4 := hj
  rcases (show j = 0 ∨ j = 1 ∨ j = 2 ∨ j = 3 by omega) with h | h | h | h
  · subst h; exact hs _ (by decide +kernel)
  · subst h; exact hs _ (by decide +kernel)
  · subst h; exact hs _ (by decide +kernel)
  · subst h; exact hs _ (by decide +kernel)
theorem sL9 {A0 : Array Value} {s : State} (hs : ∀ q ∈ flatC (Jvm.Cond.and given_1 narrow_1), q.before A0 s = true) : (Cond.exactly (tmS 9) "java/lang/String").before A0 s = true ∧ (Cond.eq (.field (tmS 9) "java/lang/String" "coder" "B") (.int 0)).before A0 s = true ∧ (Cond.arrayOf (.field (tmS 9) "java/lang/String" "value" "[B") .byte).before A0 s = true ∧ (Cond.eq (.length (.field (tmS 9) "java/lang/String" "value" "[B")) (.int (Int32.ofNat (strLen.getD 9 0)))).before A0 s = true ∧ ∀ j : Nat, j < strLen.getD 9 0 → (Cond.eq (.elem (.field (tmS 9) "java/lang/String" "value" "[B") (.int (Int32.ofNat j))) (.int ((strByt.getD 9 []).getD j 0))).before A0 s = true := by
  refine ⟨hs _ (by decide +kernel), hs _ (by decide +kernel), hs _ (by decide +kernel), hs _ (by decide +kernel), fun j hj => ?_⟩
  have hj : j < 5 := hj
  rcases (show j = 0 ∨ j = 1 ∨ j = 2 ∨ j = 3 ∨ j = 4 by omega) with h | h | h | h | h
  · subst h; exact hs _ (by decide +kernel)
  · subst h; exact hs _ (by decide +kernel)
  · subst h; exact hs _ (by decide +kernel)
  · subst h; exact hs _ (by decide +kernel)
  · subst h; exact hs _ (by decide +kernel)
theorem sN0 {A0 : Array Value} {s : State} (hs : ∀ q ∈ flatC (Jvm.Cond.and given_1 narrow_1), q.before A0 s = true) : ∀ j : Nat, 0 < j → j < 10 → (Cond.not (Cond.eq (tmS 0) (tmS j))).before A0 s = true := by
  intro j h1 h2
  rcases (show j = 1 ∨ j = 2 ∨ j = 3 ∨ j = 4 ∨ j = 5 ∨ j = 6 ∨ j = 7 ∨ j = 8 ∨ j = 9 by omega) with h | h | h | h | h | h | h | h | h
  · subst h; exact hs _ (by decide +kernel)
  · subst h; exact hs _ (by decide +kernel)
  · subst h; exact hs _ (by decide +kernel)
  · subst h; exact hs _ (by decide +kernel)
  · subst h; exact hs _ (by decide +kernel)
  · subst h; exact hs _ (by decide +kernel)
  · subst h; exact hs _ (by decide +kernel)
  · subst h; exact hs _ (by decide +kernel)
  · subst h; exact hs _ (by decide +kernel)
theorem sN1 {A0 : Array Value} {s : State} (hs : ∀ q ∈ flatC (Jvm.Cond.and given_1 narrow_1), q.before A0 s = true) : ∀ j : Nat, 1 < j → j < 10 → (Cond.not (Cond.eq (tmS 1) (tmS j))).before A0 s = true := by
  intro j h1 h2
  rcases (show j = 2 ∨ j = 3 ∨ j = 4 ∨ j = 5 ∨ j = 6 ∨ j = 7 ∨ j = 8 ∨ j = 9 by omega) with h | h | h | h | h | h | h | h
  · subst h; exact hs _ (by decide +kernel)
  · subst h; exact hs _ (by decide +kernel)
  · subst h; exact hs _ (by decide +kernel)
  · subst h; exact hs _ (by decide +kernel)
  · subst h; exact hs _ (by decide +kernel)
  · subst h; exact hs _ (by decide +kernel)
  · subst h; exact hs _ (by decide +kernel)
  · subst h; exact hs _ (by decide +kernel)
theorem sN2 {A0 : Array Value} {s : State} (hs : ∀ q ∈ flatC (Jvm.Cond.and given_1 narrow_1), q.before A0 s = true) : ∀ j : Nat, 2 < j → j < 10 → (Cond.not (Cond.eq (tmS 2) (tmS j))).before A0 s = true := by
  intro j h1 h2
  rcases (show j = 3 ∨ j = 4 ∨ j = 5 ∨ j = 6 ∨ j = 7 ∨ j = 8 ∨ j = 9 by omega) with h | h | h | h | h | h | h
  · subst h; exact hs _ (by decide +kernel)
  · subst h; exact hs _ (by decide +kernel)
  · subst h; exact hs _ (by decide +kernel)
  · subst h; exact hs _ (by decide +kernel)
  · subst h; exact hs _ (by decide +kernel)
  · subst h; exact hs _ (by decide +kernel)
  · subst h; exact hs _ (by decide +kernel)
theorem sN3 {A0 : Array Value} {s : State} (hs : ∀ q ∈ flatC (Jvm.Cond.and given_1 narrow_1), q.before A0 s = true) : ∀ j : Nat, 3 < j → j < 10 → (Cond.not (Cond.eq (tmS 3) (tmS j))).before A0 s = true := by
  intro j h1 h2
  rcases (show j = 4 ∨ j = 5 ∨ j = 6 ∨ j = 7 ∨ j = 8 ∨ j = 9 by omega) with h | h | h | h | h | h
  · subst h; exact hs _ (by decide +kernel)
  · subst h; exact hs _ (by decide +kernel)
  · subst h; exact hs _ (by decide +kernel)
  · subst h; exact hs _ (by decide +kernel)
  · subst h; exact hs _ (by decide +kernel)
  · subst h; exact hs _ (by decide +kernel)
theorem sN4 {A0 : Array Value} {s : State} (hs : ∀ q ∈ flatC (Jvm.Cond.and given_1 narrow_1), q.before A0 s = true) : ∀ j : Nat, 4 < j → j < 10 → (Cond.not (Cond.eq (tmS 4) (tmS j))).before A0 s = true := by
  intro j h1 h2
  rcases (show j = 5 ∨ j = 6 ∨ j = 7 ∨ j = 8 ∨ j = 9 by omega) with h | h | h | h | h
  · subst h; exact hs _ (by decide +kernel)
  · subst h; exact hs _ (by decide +kernel)
  · subst h; exact hs _ (by decide +kernel)
  · subst h; exact hs _ (by decide +kernel)
  · subst h; exact hs _ (by decide +kernel)
theorem sN5 {A0 : Array Value} {s : State} (hs : ∀ q ∈ flatC (Jvm.Cond.and given_1 narrow_1), q.before A0 s = true) : ∀ j : Nat, 5 < j → j < 10 → (Cond.not (Cond.eq (tmS 5) (tmS j))).before A0 s = true := by
  intro j h1 h2
  rcases (show j = 6 ∨ j = 7 ∨ j = 8 ∨ j = 9 by omega) with h | h | h | h
  · subst h; exact hs _ (by decide +kernel)
  · subst h; exact hs _ (by decide +kernel)
  · subst h; exact hs _ (by decide +kernel)
  · subst h; exact hs _ (by decide +kernel)
theorem sN6 {A0 : Array Value} {s : State} (hs : ∀ q ∈ flatC (Jvm.Cond.and given_1 narrow_1), q.before A0 s = true) : ∀ j : Nat, 6 < j → j < 10 → (Cond.not (Cond.eq (tmS 6) (tmS j))).before A0 s = true := by
  intro j h1 h2
  rcases (show j = 7 ∨ j = 8 ∨ j = 9 by omega) with h | h | h
  · subst h; exact hs _ (by decide +kernel)
  · subst h; exact hs _ (by decide +kernel)
  · subst h; exact hs _ (by decide +kernel)
theorem sN7 {A0 : Array Value} {s : State} (hs : ∀ q ∈ flatC (Jvm.Cond.and given_1 narrow_1), q.before A0 s = true) : ∀ j : Nat, 7 < j → j < 10 → (Cond.not (Cond.eq (tmS 7) (tmS j))).before A0 s = true := by
  intro j h1 h2
  rcases (show j = 8 ∨ j = 9 by omega) with h | h
  · subst h; exact hs _ (by decide +kernel)
  · subst h; exact hs _ (by decide +kernel)
theorem sN8 {A0 : Array Value} {s : State} (hs : ∀ q ∈ flatC (Jvm.Cond.and given_1 narrow_1), q.before A0 s = true) : ∀ j : Nat, 8 < j → j < 10 → (Cond.not (Cond.eq (tmS 8) (tmS j))).before A0 s = true := by
  intro j h1 h2
  have h : j = 9 := by omega
  subst h; exact hs _ (by decide +kernel)
theorem sN9 {A0 : Array Value} {s : State} (hs : ∀ q ∈ flatC (Jvm.Cond.and given_1 narrow_1), q.before A0 s = true) : ∀ j : Nat, 9 < j → j < 10 → (Cond.not (Cond.eq (tmS 9) (tmS j))).before A0 s = true := by
  intro j h1 h2
  exact absurd h2 (by omega)
theorem law_SS {s : State} {A0 : Array Value} {A : Nat → Prop} (hts : ∀ w ∈ lw_tbl, w.before A0 s = true) (hgv : (Jvm.Cond.and given_1 narrow_1).before A0 s = true) (hA : ∀ a : Nat, a < s.heap.size → ¬ A a) : ∃ adK adV : Nat → Nat, SS adK adV A s s.heap := by
  have hs := flat_of_before _ hgv
  obtain ⟨adK, adV, h1, h2⟩ := vk_Sof (args := A0) (s := s) (N := 10) (tm := tmS) (len := strLen) (byt := strByt) (A := A) (fun i hi => Nat.lt_of_le_of_lt (strLen_le i) (by decide)) (fun i hi => by
    rcases (show i = 0 ∨ i = 1 ∨ i = 2 ∨ i = 3 ∨ i = 4 ∨ i = 5 ∨ i = 6 ∨ i = 7 ∨ i = 8 ∨ i = 9 by omega) with h | h | h | h | h | h | h | h | h | h <;> subst h
    · exact (sL0 hs).1
    · exact (sL1 hs).1
    · exact (sL2 hs).1
    · exact (sL3 hs).1
    · exact (sL4 hs).1
    · exact (sL5 hs).1
    · exact (sL6 hs).1
    · exact (sL7 hs).1
    · exact (sL8 hs).1
    · exact (sL9 hs).1) (fun i hi => by
    rcases (show i = 0 ∨ i = 1 ∨ i = 2 ∨ i = 3 ∨ i = 4 ∨ i = 5 ∨ i = 6 ∨ i = 7 ∨ i = 8 ∨ i = 9 by omega) with h | h | h | h | h | h | h | h | h | h <;> subst h
    · exact (sL0 hs).2.1
    · exact (sL1 hs).2.1
    · exact (sL2 hs).2.1
    · exact (sL3 hs).2.1
    · exact (sL4 hs).2.1
    · exact (sL5 hs).2.1
    · exact (sL6 hs).2.1
    · exact (sL7 hs).2.1
    · exact (sL8 hs).2.1
    · exact (sL9 hs).2.1) (fun i hi => by
    rcases (show i = 0 ∨ i = 1 ∨ i = 2 ∨ i = 3 ∨ i = 4 ∨ i = 5 ∨ i = 6 ∨ i = 7 ∨ i = 8 ∨ i = 9 by omega) with h | h | h | h | h | h | h | h | h | h <;> subst h
    · exact (sL0 hs).2.2.1
    · exact (sL1 hs).2.2.1
    · exact (sL2 hs).2.2.1
    · exact (sL3 hs).2.2.1
    · exact (sL4 hs).2.2.1
    · exact (sL5 hs).2.2.1
    · exact (sL6 hs).2.2.1
    · exact (sL7 hs).2.2.1
    · exact (sL8 hs).2.2.1
    · exact (sL9 hs).2.2.1) (fun i hi => by
    rcases (show i = 0 ∨ i = 1 ∨ i = 2 ∨ i = 3 ∨ i = 4 ∨ i = 5 ∨ i = 6 ∨ i = 7 ∨ i = 8 ∨ i = 9 by omega) with h | h | h | h | h | h | h | h | h | h <;> subst h
    · exact (sL0 hs).2.2.2.1
    · exact (sL1 hs).2.2.2.1
    · exact (sL2 hs).2.2.2.1
    · exact (sL3 hs).2.2.2.1
    · exact (sL4 hs).2.2.2.1
    · exact (sL5 hs).2.2.2.1
    · exact (sL6 hs).2.2.2.1
    · exact (sL7 hs).2.2.2.1
    · exact (sL8 hs).2.2.2.1
    · exact (sL9 hs).2.2.2.1) (fun i hi => by
    rcases (show i = 0 ∨ i = 1 ∨ i = 2 ∨ i = 3 ∨ i = 4 ∨ i = 5 ∨ i = 6 ∨ i = 7 ∨ i = 8 ∨ i = 9 by omega) with h | h | h | h | h | h | h | h | h | h <;> subst h
    · exact (sL0 hs).2.2.2.2
    · exact (sL1 hs).2.2.2.2
    · exact (sL2 hs).2.2.2.2
    · exact (sL3 hs).2.2.2.2
    · exact (sL4 hs).2.2.2.2
    · exact (sL5 hs).2.2.2.2
    · exact (sL6 hs).2.2.2.2
    · exact (sL7 hs).2.2.2.2
    · exact (sL8 hs).2.2.2.2
    · exact (sL9 hs).2.2.2.2) (fun i j hi hj hij => by
    rcases Nat.lt_or_gt_of_ne hij with h9 | h9
    · refine Or.inl ?_
      rcases (show i = 0 ∨ i = 1 ∨ i = 2 ∨ i = 3 ∨ i = 4 ∨ i = 5 ∨ i = 6 ∨ i = 7 ∨ i = 8 ∨ i = 9 by omega) with h | h | h | h | h | h | h | h | h | h <;> subst h
      · exact sN0 hs j h9 hj
      · exact sN1 hs j h9 hj
      · exact sN2 hs j h9 hj
      · exact sN3 hs j h9 hj
      · exact sN4 hs j h9 hj
      · exact sN5 hs j h9 hj
      · exact sN6 hs j h9 hj
      · exact sN7 hs j h9 hj
      · exact sN8 hs j h9 hj
      · exact sN9 hs j h9 hj
    · refine Or.inr ?_
      rcases (show j = 0 ∨ j = 1 ∨ j = 2 ∨ j = 3 ∨ j = 4 ∨ j = 5 ∨ j = 6 ∨ j = 7 ∨ j = 8 ∨ j = 9 by omega) with h | h | h | h | h | h | h | h | h | h <;> subst h
      · exact sN0 hs i h9 hi
      · exact sN1 hs i h9 hi
      · exact sN2 hs i h9 hi
      · exact sN3 hs i h9 hi
      · exact sN4 hs i h9 hi
      · exact sN5 hs i h9 hi
      · exact sN6 hs i h9 hi
      · exact sN7 hs i h9 hi
      · exact sN8 hs i h9 hi
      · exact sN9 hs i h9 hi
    ) hA
  refine ⟨adK, adV, h1, fun i q hq => ?_, va_Zof (hts _ (List.mem_append_right _ (List.mem_of_getElem? (i := 412) (by decide +kernel)))) (hts _ (List.mem_append_right _ (List.mem_of_getElem? (i := 13) (by decide +kernel)))) (va_eqt (hs _ (by decide +kernel))) hA, va_Zqof (hts _ (List.mem_append_right _ (List.mem_of_getElem? (i := 428) (by decide +kernel)))) (hts _ (List.mem_append_right _ (List.mem_of_getElem? (i := 15) (by decide +kernel)))) (hs _ (by decide +kernel)) hA⟩
  have hi : i < 10 := (List.getElem?_eq_some_iff.mp hq).1
  have e2 := h2 i hi
  rcases (show i = 0 ∨ i = 1 ∨ i = 2 ∨ i = 3 ∨ i = 4 ∨ i = 5 ∨ i = 6 ∨ i = 7 ∨ i = 8 ∨ i = 9 by omega) with h | h | h | h | h | h | h | h | h | h <;> subst h
  · cases hq; exact vk_R.of (hts _ (List.mem_append_right _ (List.mem_of_getElem? (i := 394) (by decide +kernel)))) e2
  · cases hq; exact vk_R.of (hts _ (List.mem_append_right _ (List.mem_of_getElem? (i := 467) (by decide +kernel)))) e2
  · cases hq; exact vk_R.of (hts _ (List.mem_append_right _ (List.mem_of_getElem? (i := 476) (by decide +kernel)))) e2
  · cases hq; exact vk_R.of (hts _ (List.mem_append_right _ (List.mem_of_getElem? (i := 485) (by decide +kernel)))) e2
  · cases hq; exact vk_R.of (hts _ (List.mem_append_right _ (List.mem_of_getElem? (i := 486) (by decide +kernel)))) e2
  · cases hq; exact vk_R.of (hts _ (List.mem_append_right _ (List.mem_of_getElem? (i := 487) (by decide +kernel)))) e2
  · cases hq; exact vk_R.of (hts _ (List.mem_append_right _ (List.mem_of_getElem? (i := 488) (by decide +kernel)))) e2
  · cases hq; exact vk_R.of (hts _ (List.mem_append_right _ (List.mem_of_getElem? (i := 489) (by decide +kernel)))) e2
  · cases hq; exact vk_R.of (hts _ (List.mem_append_right _ (List.mem_of_getElem? (i := 490) (by decide +kernel)))) e2
  · cases hq; exact vk_R.of (hts _ (List.mem_append_right _ (List.mem_of_getElem? (i := 495) (by decide +kernel)))) e2


set_option maxHeartbeats 4000000 in
set_option maxRecDepth 100000 in
theorem law_loop {p : Program} {l : Launch} {e : Env} {s : State} {m : MethodId} {below : List Frame} {meth : Method} {c : Code} {b L : Nat} {xs : Nat → Int32} {dC : Nat → ClassId} {dI : Nat → Nat → Nat} {G : Nat → ClassId} {ax adK adV : Nat → Nat} {A : Nat → Prop} (C1 : lw_C p s m c b L xs dC dI G ax adK adV A) (hr : meth.sig.returnType = ret) (hlocks : meth.locks = false) (hAd : A = fun q : Nat => s.heap.size ≤ q) (hL : L ≤ 2560) : ∀ (n k : Nat), 513 ≤ k + n → 5 * k ≤ 2560 → ∀ (H : Heap) (locs : List Loc) (ls : Array Slot), LI dC dI G ax H → va_S A s.heap H locs → lv_has ls 4 [(3, .int (nI (5 * k))), (2, .ref (ax 112)), (1, .ref (ax 0)), (0, .ref b)] → W p l e room_1 s m #[Value.ref b] below meth c H locs 129 4562 (lw_Z below #[Value.ref b] s) (F0 m 18 ls []) := by
  obtain ⟨hx, hb, hml, hown, hg, hX, hbl, hbA, hK, hi, hAx, hA, hSS⟩ := id C1
  intro n
  induction n with
  | zero => intro k h1 h2; exact absurd h1 (by omega)
  | succ n ih =>
    intro k h1 h2 H locs ls hI hS hl
    have step : ∀ (H : Heap) (locs : List Loc), 5 * k + 5 ≤ L → LI dC dI G ax H → va_S A s.heap H locs → W p l e room_1 s m #[Value.ref b] below meth c H locs 129 4562 (lw_Z below #[Value.ref b] s) (F0 m 1381 ls []) := by
      intro H locs h3 hI hS
      refine lv_iinc (v := nI (5 * (k + 1))) (lv' := [(3, .int (nI (5 * (k + 1)))), (2, .ref (ax 112)), (1, .ref (ax 0)), (0, .ref b)]) hx hb dL_law_1381 hl (k := 0) rfl (by rw [show Int32.ofInt 5 = nI 5 from by decide]; exact nI_add _ _) (by decide) rfl (fun ls hl => ?_)
      refine lv_goto (tgt := 18) hx hb dL_law_1384 (by decide) ?_
      exact ih (k + 1) (by omega) (by omega) H locs ls hI hS hl
    refine lv_iload_n hx hb dL_law_18 rfl (lv_at hl 0 rfl) ?_
    refine lv_aload_n hx hb dL_law_19 rfl (lv_at hl 3 rfl) ?_
    refine va_slen hx hb hX hbl hbA hS dL_law_20 ?_
    refine lv_cg (y := nI L) rfl ?_
    refine lv_iconst (v := 5) hx hb dL_law_21 (by decide) ?_
    refine lv_isub hx hb dL_law_22 ?_
    have e5 : (nI L - 5).toInt = (L : Int) - 5 := by rw [show (5 : Int32) = nI 5 from rfl]; exact pk_sub_toInt (by omega) (by omega)
    have e6 : (nI (5 * k)).toInt = ((5 * k : Nat) : Int) := nI_toInt (by omega)
    refine lv_icmp_gt (tgt := 1387) hx hb dL_law_23 (by decide) (fun c1 => ?_) (fun c1 => ?_)
    · refine lv_iconst (v := 1) hx hb dL_law_1387 (by decide) ?_
      refine va_forget (fun q hq => by have h9 := hS.2.2 q hq; rw [hAd] at h9; exact h9) ?_
      refine W.widen (k := 600000) (n := 7302249) (by omega) (by omega) ?_
      exact lw_ret hx hb hr hlocks dL_law_1388
    · have t1 := nltI c1
      have hk : 5 * k + 5 ≤ L := by omega
      refine lv_aload_n hx hb dL_law_26 rfl (lv_at hl 3 rfl) ?_
      refine lv_iload_n hx hb dL_law_27 rfl (lv_at hl 0 rfl) ?_
      refine va_sld hx hb hX hbl hbA hS (vp_in_nI (by omega) (by omega)) dL_law_28 ?_
      refine lv_bipush (v := 63) hx hb dL_law_29 (by decide) ?_
      refine lv_iand hx hb dL_law_31 ?_
      refine lv_topi (fun x ex => ?_)
      by_cases s0 : x = 0
      · refine lv_cg s0 ?_
        refine lv_tableIn (tgt := 204) hx hb dL_law_32 (by decide) (by decide) rfl (by decide) ?_
        exact lc_feed C1 hk hL hI hS hl (fun H locs hI hS => step H locs hk hI hS)
      by_cases s1 : x = 1
      · refine lv_cg s1 ?_
        refine lv_tableIn (tgt := 257) hx hb dL_law_32 (by decide) (by decide) rfl (by decide) ?_
        exact lc_end C1 hk hL hI hS hl (fun H locs hI hS => step H locs hk hI hS)
      by_cases s2 : x = 2
      · refine lv_cg s2 ?_
        refine lv_tableIn (tgt := 280) hx hb dL_law_32 (by decide) (by decide) rfl (by decide) ?_
        exact lc_text C1 hk hL hI hS hl (fun H locs hI hS => step H locs hk hI hS)
      by_cases s3 : x = 3
      · refine lv_cg s3 ?_
        refine lv_tableIn (tgt := 293) hx hb dL_law_32 (by decide) (by decide) rfl (by decide) ?_
        exact lc_fault C1 hk hL hI hS hl (fun H locs hI hS => step H locs hk hI hS)
      by_cases s4 : x = 4
      · refine lv_cg s4 ?_
        refine lv_tableIn (tgt := 306) hx hb dL_law_32 (by decide) (by decide) rfl (by decide) ?_
        exact lc_rule C1 hk hL hI hS hl (fun H locs hI hS => step H locs hk hI hS)
      by_cases s5 : x = 5
      · refine lv_cg s5 ?_
        refine lv_tableIn (tgt := 329) hx hb dL_law_32 (by decide) (by decide) rfl (by decide) ?_
        exact lc_stretch C1 hk hL hI hS hl (fun H locs hI hS => step H locs hk hI hS)
      by_cases s6 : x = 6
      · refine lv_cg s6 ?_
        refine lv_tableIn (tgt := 362) hx hb dL_law_32 (by decide) (by decide) rfl (by decide) ?_
        exact lc_bearer C1 hk hL hI hS hl (fun H locs hI hS => step H locs hk hI hS)
      by_cases s7 : x = 7
      · refine lv_cg s7 ?_
        refine lv_tableIn (tgt := 395) hx hb dL_law_32 (by decide) (by decide) rfl (by decide) ?_
        exact lc_start C1 hk hL hI hS hl (fun H locs hI hS => step H locs hk hI hS)
      by_cases s8 : x = 8
      · refine lv_cg s8 ?_
        refine lv_tableIn (tgt := 418) hx hb dL_law_32 (by decide) (by decide) rfl (by decide) ?_
        exact lc_noise C1 hk hL hI hS hl (fun H locs hI hS => step H locs hk hI hS)
      by_cases s9 : x = 9
      · refine lv_cg s9 ?_
        refine lv_tableIn (tgt := 451) hx hb dL_law_32 (by decide) (by decide) rfl (by decide) ?_
        exact lc_cold C1 hk hL hI hS hl (fun H locs hI hS => step H locs hk hI hS)
      by_cases s10 : x = 10
      · refine lv_cg s10 ?_
        refine lv_tableIn (tgt := 484) hx hb dL_law_32 (by decide) (by decide) rfl (by decide) ?_
        exact lc_step C1 hk hL hI hS hl (fun H locs hI hS => step H locs hk hI hS)
      by_cases s11 : x = 11
      · refine lv_cg s11 ?_
        refine lv_tableIn (tgt := 517) hx hb dL_law_32 (by decide) (by decide) rfl (by decide) ?_
        exact lc_warm C1 hk hL hI hS hl (fun H locs hI hS => step H locs hk hI hS)
      by_cases s12 : x = 12
      · refine lv_cg s12 ?_
        refine lv_tableIn (tgt := 550) hx hb dL_law_32 (by decide) (by decide) rfl (by decide) ?_
        exact lc_put C1 hk hL hI hS hl (fun H locs hI hS => step H locs hk hI hS)
      by_cases s13 : x = 13
      · refine lv_cg s13 ?_
        refine lv_tableIn (tgt := 583) hx hb dL_law_32 (by decide) (by decide) rfl (by decide) ?_
        exact lc_harm C1 hk hL hI hS hl (fun H locs hI hS => step H locs hk hI hS)
      by_cases s14 : x = 14
      · refine lv_cg s14 ?_
        refine lv_tableIn (tgt := 626) hx hb dL_law_32 (by decide) (by decide) rfl (by decide) ?_
        exact lc_wakes C1 hk hL hI hS hl (fun H locs hI hS => step H locs hk hI hS)
      by_cases s15 : x = 15
      · refine lv_cg s15 ?_
        refine lv_tableIn (tgt := 649) hx hb dL_law_32 (by decide) (by decide) rfl (by decide) ?_
        exact lc_awake C1 hk hL hI hS hl (fun H locs hI hS => step H locs hk hI hS)
      by_cases s16 : x = 16
      · refine lv_cg s16 ?_
        refine lv_tableIn (tgt := 682) hx hb dL_law_32 (by decide) (by decide) rfl (by decide) ?_
        exact lc_depth C1 hk hL hI hS hl (fun H locs hI hS => step H locs hk hI hS)
      by_cases s17 : x = 17
      · refine lv_cg s17 ?_
        refine lv_tableIn (tgt := 725) hx hb dL_law_32 (by decide) (by decide) rfl (by decide) ?_
        exact lc_best C1 hk hL hI hS hl (fun H locs hI hS => step H locs hk hI hS)
      by_cases s18 : x = 18
      · refine lv_cg s18 ?_
        refine lv_tableIn (tgt := 748) hx hb dL_law_32 (by decide) (by decide) rfl (by decide) ?_
        exact lc_next C1 hk hL hI hS hl (fun H locs hI hS => step H locs hk hI hS)
      by_cases s19 : x = 19
      · refine lv_cg s19 ?_
        refine lv_tableIn (tgt := 791) hx hb dL_law_32 (by decide) (by decide) rfl (by decide) ?_
        exact lc_without C1 hk hL hI hS hl (fun H locs hI hS => step H locs hk hI hS)
      by_cases s20 : x = 20
      · refine lv_cg s20 ?_
        refine lv_tableIn (tgt := 824) hx hb dL_law_32 (by decide) (by decide) rfl (by decide) ?_
        exact lc_quiet C1 hk hL hI hS hl (fun H locs hI hS => step H locs hk hI hS)
      by_cases s21 : x = 21
      · refine lv_cg s21 ?_
        refine lv_tableIn (tgt := 857) hx hb dL_law_32 (by decide) (by decide) rfl (by decide) ?_
        exact lc_drop C1 hk hL hI hS hl (fun H locs hI hS => step H locs hk hI hS)
      by_cases s22 : x = 22
      · refine lv_cg s22 ?_
        refine lv_tableIn (tgt := 880) hx hb dL_law_32 (by decide) (by decide) rfl (by decide) ?_
        exact lc_swap C1 hk hL hI hS hl (fun H locs hI hS => step H locs hk hI hS)
      by_cases s23 : x = 23
      · refine lv_cg s23 ?_
        refine lv_tableIn (tgt := 903) hx hb dL_law_32 (by decide) (by decide) rfl (by decide) ?_
        exact lc_carry C1 hk hL hI hS hl (fun H locs hI hS => step H locs hk hI hS)
      by_cases s24 : x = 24
      · refine lv_cg s24 ?_
        refine lv_tableIn (tgt := 936) hx hb dL_law_32 (by decide) (by decide) rfl (by decide) ?_
        exact lc_learn C1 hk hL hI hS hl (fun H locs hI hS => step H locs hk hI hS)
      by_cases s25 : x = 25
      · refine lv_cg s25 ?_
        refine lv_tableIn (tgt := 989) hx hb dL_law_32 (by decide) (by decide) rfl (by decide) ?_
        exact lc_forget C1 hk hL hI hS hl (fun H locs hI hS => step H locs hk hI hS)
      by_cases s26 : x = 26
      · refine lv_cg s26 ?_
        refine lv_tableIn (tgt := 1012) hx hb dL_law_32 (by decide) (by decide) rfl (by decide) ?_
        exact lc_steps C1 hk hL hI hS hl (fun H locs hI hS => step H locs hk hI hS)
      by_cases s27 : x = 27
      · refine lv_cg s27 ?_
        refine lv_tableIn (tgt := 1045) hx hb dL_law_32 (by decide) (by decide) rfl (by decide) ?_
        exact lc_mark C1 hk hL hI hS hl (fun H locs hI hS => step H locs hk hI hS)
      by_cases s28 : x = 28
      · refine lv_cg s28 ?_
        refine lv_tableIn (tgt := 1078) hx hb dL_law_32 (by decide) (by decide) rfl (by decide) ?_
        exact lc_wipe C1 hk hL hI hS hl (fun H locs hI hS => step H locs hk hI hS)
      by_cases s29 : x = 29
      · refine lv_cg s29 ?_
        refine lv_tableIn (tgt := 1101) hx hb dL_law_32 (by decide) (by decide) rfl (by decide) ?_
        exact lc_paths C1 hk hL hI hS hl (fun H locs hI hS => step H locs hk hI hS)
      by_cases s30 : x = 30
      · refine lv_cg s30 ?_
        refine lv_tableIn (tgt := 1114) hx hb dL_law_32 (by decide) (by decide) rfl (by decide) ?_
        exact lc_eye C1 hk hL hI hS hl (fun H locs hI hS => step H locs hk hI hS)
      by_cases s31 : x = 31
      · refine lv_cg s31 ?_
        refine lv_tableIn (tgt := 1137) hx hb dL_law_32 (by decide) (by decide) rfl (by decide) ?_
        exact lc_sure C1 hk hL hI hS hl (fun H locs hI hS => step H locs hk hI hS)
      by_cases s32 : x = 32
      · refine lv_cg s32 ?_
        refine lv_tableIn (tgt := 1160) hx hb dL_law_32 (by decide) (by decide) rfl (by decide) ?_
        exact lc_keep C1 hk hL hI hS hl (fun H locs hI hS => step H locs hk hI hS)
      by_cases s33 : x = 33
      · refine lv_cg s33 ?_
        refine lv_tableIn (tgt := 1183) hx hb dL_law_32 (by decide) (by decide) rfl (by decide) ?_
        exact lc_back C1 hk hL hI hS hl (fun H locs hI hS => step H locs hk hI hS)
      by_cases s34 : x = 34
      · refine lv_cg s34 ?_
        refine lv_tableIn (tgt := 1206) hx hb dL_law_32 (by decide) (by decide) rfl (by decide) ?_
        exact lc_sheet C1 hk hL hI hS hl (fun H locs hI hS => step H locs hk hI hS)
      by_cases s35 : x = 35
      · refine lv_cg s35 ?_
        refine lv_tableIn (tgt := 1249) hx hb dL_law_32 (by decide) (by decide) rfl (by decide) ?_
        exact lc_lay C1 hk hL hI hS hl (fun H locs hI hS => step H locs hk hI hS)
      by_cases s36 : x = 36
      · refine lv_cg s36 ?_
        refine lv_tableIn (tgt := 1292) hx hb dL_law_32 (by decide) (by decide) rfl (by decide) ?_
        exact lc_read C1 hk hL hI hS hl (fun H locs hI hS => step H locs hk hI hS)
      by_cases s37 : x = 37
      · refine lv_cg s37 ?_
        refine lv_tableIn (tgt := 1345) hx hb dL_law_32 (by decide) (by decide) rfl (by decide) ?_
        exact lc_torn C1 hk hL hI hS hl (fun H locs hI hS => step H locs hk hI hS)
      by_cases s38 : x = 38
      · refine lv_cg s38 ?_
        refine lv_tableIn (tgt := 1358) hx hb dL_law_32 (by decide) (by decide) rfl (by decide) ?_
        exact lc_count C1 hk hL hI hS hl (fun H locs hI hS => step H locs hk hI hS)
      have g0 : ¬ x.toInt = 0 := by have t := neI s0; rw [show (0 : Int32).toInt = 0 from by decide] at t; exact t
      have g1 : ¬ x.toInt = 1 := by have t := neI s1; rw [show (1 : Int32).toInt = 1 from by decide] at t; exact t
      have g2 : ¬ x.toInt = 2 := by have t := neI s2; rw [show (2 : Int32).toInt = 2 from by decide] at t; exact t
      have g3 : ¬ x.toInt = 3 := by have t := neI s3; rw [show (3 : Int32).toInt = 3 from by decide] at t; exact t
      have g4 : ¬ x.toInt = 4 := by have t := neI s4; rw [show (4 : Int32).toInt = 4 from by decide] at t; exact t
      have g5 : ¬ x.toInt = 5 := by have t := neI s5; rw [show (5 : Int32).toInt = 5 from by decide] at t; exact t
      have g6 : ¬ x.toInt = 6 := by have t := neI s6; rw [show (6 : Int32).toInt = 6 from by decide] at t; exact t
      have g7 : ¬ x.toInt = 7 := by have t := neI s7; rw [show (7 : Int32).toInt = 7 from by decide] at t; exact t
      have g8 : ¬ x.toInt = 8 := by have t := neI s8; rw [show (8 : Int32).toInt = 8 from by decide] at t; exact t
      have g9 : ¬ x.toInt = 9 := by have t := neI s9; rw [show (9 : Int32).toInt = 9 from by decide] at t; exact t
      have g10 : ¬ x.toInt = 10 := by have t := neI s10; rw [show (10 : Int32).toInt = 10 from by decide] at t; exact t
      have g11 : ¬ x.toInt = 11 := by have t := neI s11; rw [show (11 : Int32).toInt = 11 from by decide] at t; exact t
      have g12 : ¬ x.toInt = 12 := by have t := neI s12; rw [show (12 : Int32).toInt = 12 from by decide] at t; exact t
      have g13 : ¬ x.toInt = 13 := by have t := neI s13; rw [show (13 : Int32).toInt = 13 from by decide] at t; exact t
      have g14 : ¬ x.toInt = 14 := by have t := neI s14; rw [show (14 : Int32).toInt = 14 from by decide] at t; exact t
      have g15 : ¬ x.toInt = 15 := by have t := neI s15; rw [show (15 : Int32).toInt = 15 from by decide] at t; exact t
      have g16 : ¬ x.toInt = 16 := by have t := neI s16; rw [show (16 : Int32).toInt = 16 from by decide] at t; exact t
      have g17 : ¬ x.toInt = 17 := by have t := neI s17; rw [show (17 : Int32).toInt = 17 from by decide] at t; exact t
      have g18 : ¬ x.toInt = 18 := by have t := neI s18; rw [show (18 : Int32).toInt = 18 from by decide] at t; exact t
      have g19 : ¬ x.toInt = 19 := by have t := neI s19; rw [show (19 : Int32).toInt = 19 from by decide] at t; exact t
      have g20 : ¬ x.toInt = 20 := by have t := neI s20; rw [show (20 : Int32).toInt = 20 from by decide] at t; exact t
      have g21 : ¬ x.toInt = 21 := by have t := neI s21; rw [show (21 : Int32).toInt = 21 from by decide] at t; exact t
      have g22 : ¬ x.toInt = 22 := by have t := neI s22; rw [show (22 : Int32).toInt = 22 from by decide] at t; exact t
      have g23 : ¬ x.toInt = 23 := by have t := neI s23; rw [show (23 : Int32).toInt = 23 from by decide] at t; exact t
      have g24 : ¬ x.toInt = 24 := by have t := neI s24; rw [show (24 : Int32).toInt = 24 from by decide] at t; exact t
      have g25 : ¬ x.toInt = 25 := by have t := neI s25; rw [show (25 : Int32).toInt = 25 from by decide] at t; exact t
      have g26 : ¬ x.toInt = 26 := by have t := neI s26; rw [show (26 : Int32).toInt = 26 from by decide] at t; exact t
      have g27 : ¬ x.toInt = 27 := by have t := neI s27; rw [show (27 : Int32).toInt = 27 from by decide] at t; exact t
      have g28 : ¬ x.toInt = 28 := by have t := neI s28; rw [show (28 : Int32).toInt = 28 from by decide] at t; exact t
      have g29 : ¬ x.toInt = 29 := by have t := neI s29; rw [show (29 : Int32).toInt = 29 from by decide] at t; exact t
      have g30 : ¬ x.toInt = 30 := by have t := neI s30; rw [show (30 : Int32).toInt = 30 from by decide] at t; exact t
      have g31 : ¬ x.toInt = 31 := by have t := neI s31; rw [show (31 : Int32).toInt = 31 from by decide] at t; exact t
      have g32 : ¬ x.toInt = 32 := by have t := neI s32; rw [show (32 : Int32).toInt = 32 from by decide] at t; exact t
      have g33 : ¬ x.toInt = 33 := by have t := neI s33; rw [show (33 : Int32).toInt = 33 from by decide] at t; exact t
      have g34 : ¬ x.toInt = 34 := by have t := neI s34; rw [show (34 : Int32).toInt = 34 from by decide] at t; exact t
      have g35 : ¬ x.toInt = 35 := by have t := neI s35; rw [show (35 : Int32).toInt = 35 from by decide] at t; exact t
      have g36 : ¬ x.toInt = 36 := by have t := neI s36; rw [show (36 : Int32).toInt = 36 from by decide] at t; exact t
      have g37 : ¬ x.toInt = 37 := by have t := neI s37; rw [show (37 : Int32).toInt = 37 from by decide] at t; exact t
      have g38 : ¬ x.toInt = 38 := by have t := neI s38; rw [show (38 : Int32).toInt = 38 from by decide] at t; exact t
      refine lv_tableOut (tgt := 1381) hx hb dL_law_32 (by omega) (by decide) ?_
      exact step H locs hk hI hS

theorem inj_of {A : Nat → Prop} {ws : va_W} (hD : va_D A ws) {n : Nat} {ax : Nat → Nat} (h : ws.map Prod.fst = (List.range n).map ax) : adInj n ax ∧ ∀ i : Nat, i < n → A (ax i) := by
  have at' : ∀ i : Nat, i < n → ∃ p : Nat × va_E, ws[i]? = some p ∧ p.1 = ax i := by
    intro i hi
    have a : (ws.map Prod.fst)[i]? = some (ax i) := by rw [h, List.getElem?_map, List.getElem?_range hi]; rfl
    rw [List.getElem?_map] at a
    cases e : ws[i]? with
    | none => rw [e] at a; cases a
    | some p => rw [e] at a; exact ⟨p, rfl, Option.some.inj a⟩
  refine ⟨fun i j hi hj e => ?_, fun i hi => ?_⟩
  · obtain ⟨p, p1, p2⟩ := at' i hi
    obtain ⟨q, q1, q2⟩ := at' j hj
    exact hD.1 i j p q p1 q1 (by rw [p2, q2, e])
  · obtain ⟨p, p1, p2⟩ := at' i hi
    rw [← p2]
    exact hD.2 i p p1
theorem rows_eq {n lo : Nat} {u ax : Nat → Nat} (h : ∀ i : Nat, i < n → ax (lo + i) = u i) : (fun ir => if ir < n then some (u ir) else none) = (fun ir => if ir < n then some (ax (lo + ir)) else none) := by
  funext ir
  by_cases c : ir < n
  · rw [if_pos c, if_pos c, h ir c]
  · rw [if_neg c, if_neg c]
theorem OKS0 : OKS (fun _ => 0) := fun q hq => by
  show okS q 0
  have e : (0 : Int32).toInt = 0 := by decide
  exact ⟨fun _ => by omega, fun _ _ => by omega, fun _ => by omega⟩
theorem OKL0 : OKL (fun _ => 0) := fun q hq => by
  have e : (0 : Int32).toInt = 0 := by decide
  show (0 ≤ (0 : Int32).toInt ∧ (0 : Int32).toInt < 10) ∧ ((0 : Int32) = -4 ∨ (0 ≤ (0 : Int32).toInt ∧ (0 : Int32).toInt < 6)) ∧ (0 ≤ (0 : Int32).toInt ∧ (0 : Int32).toInt < 6)
  exact ⟨by omega, Or.inr (by omega), by omega⟩
theorem cut0 : ∀ q : Nat, q < 11 → (upd (upd (upd (upd (upd (upd (upd (upd (upd (upd (upd (fun _ => 0) 0 0) 1 5) 2 12) 3 18) 4 23) 5 28) 6 34) 7 42) 8 46) 9 50) 10 54) q = nI (cutL.getD q 0) := by
  intro q hq
  rcases (show q = 0 ∨ q = 1 ∨ q = 2 ∨ q = 3 ∨ q = 4 ∨ q = 5 ∨ q = 6 ∨ q = 7 ∨ q = 8 ∨ q = 9 ∨ q = 10 by omega) with h | h | h | h | h | h | h | h | h | h | h <;> subst h <;> first | rfl | decide
theorem lm0 : (upd (upd (upd (upd (fun _ => 0) 0 (-4)) 1 (-4)) 2 (-4)) 3 (-4)) = lmap (upd (upd (upd (upd (fun _ => 0) 0 (-1)) 1 (-1)) 2 (-1)) 3 (-1)) := by
  funext q
  match q with
  | 0 => first | rfl | decide | simp [lmap, upd]
  | 1 => first | rfl | decide | simp [lmap, upd]
  | 2 => first | rfl | decide | simp [lmap, upd]
  | 3 => first | rfl | decide | simp [lmap, upd]
  | q + 4 => simp [lmap, upd]
theorem E0_inv : ∀ q : Nat, q < 4 → (upd (upd (upd (upd (fun _ => 0) 0 (-1)) 1 (-1)) 2 (-1)) 3 (-1)) q = -1 ∨ (0 ≤ ((upd (upd (upd (upd (fun _ => 0) 0 (-1)) 1 (-1)) 2 (-1)) 3 (-1)) q).toInt ∧ ((upd (upd (upd (upd (fun _ => 0) 0 (-1)) 1 (-1)) 2 (-1)) 3 (-1)) q).toInt ≤ 2) := by
  intro q hq
  refine Or.inl ?_
  rcases (show q = 0 ∨ q = 1 ∨ q = 2 ∨ q = 3 by omega) with h | h | h | h <;> subst h <;> first | rfl | decide

set_option maxHeartbeats 4000000 in
set_option maxRecDepth 100000 in
theorem LI.fresh {dC : Nat → ClassId} {dI : Nat → Nat → Nat} {G : Nat → ClassId} {ax : Nat → Nat} {H : Heap} {fl : Nat → Int32} (hfl : ∀ q : Nat, q < 54 → fl q = letL.getD q 0) (hP : va_P (dC, dI) vwCl [(ax 0, .inr (10, [.ref (ax 1), .ref (ax 11), .ref (ax 18), .ref (ax 25), .ref (ax 40), .ref (ax 41), .ref (ax 44), .ref (ax 68), .ref (ax 69), .ref (ax 74), .ref (ax 77), .ref (ax 102), .int 0, .int 0])), (ax 1, .inr (5, [.ref (ax 2), .ref (ax 4), .int 0, .int 0, .int 0, .int 0, .int 0, .int 0, .int 0, .int 0, .int 0, .int 0])), (ax 2, .inr (7, [.int (nI 0), .ref (ax 3)])), (ax 3, .inl (G 0, 320, .inl (fun _ => 0))), (ax 4, .inr (9, [.int (nI 0), .int (nI 0), .int (nI 5), .ref (ax 5), .ref (ax 6), .ref (ax 7), .ref (ax 8), .ref (ax 9), .ref (ax 10)])), (ax 5, .inl (G 0, 10, .inl (fun _ => 0))), (ax 6, .inl (G 0, 10, .inl (fun _ => 0))), (ax 7, .inl (G 0, 10, .inl (fun _ => 0))), (ax 8, .inl (G 0, 6, .inl (fun _ => 0))), (ax 9, .inl (G 0, 6, .inl (fun _ => 0))), (ax 10, .inl (G 0, 6, .inl (fun _ => 0))), (ax 11, .inr (9, [.int (nI 0), .int (nI 0), .int (nI 5), .ref (ax 12), .ref (ax 13), .ref (ax 14), .ref (ax 15), .ref (ax 16), .ref (ax 17)])), (ax 12, .inl (G 0, 10, .inl (fun _ => 0))), (ax 13, .inl (G 0, 10, .inl (fun _ => 0))), (ax 14, .inl (G 0, 10, .inl (fun _ => 0))), (ax 15, .inl (G 0, 6, .inl (fun _ => 0))), (ax 16, .inl (G 0, 6, .inl (fun _ => 0))), (ax 17, .inl (G 0, 6, .inl (fun _ => 0))), (ax 18, .inr (9, [.int (nI 0), .int (nI 0), .int (nI 5), .ref (ax 19), .ref (ax 20), .ref (ax 21), .ref (ax 22), .ref (ax 23), .ref (ax 24)])), (ax 19, .inl (G 0, 10, .inl (fun _ => 0))), (ax 20, .inl (G 0, 10, .inl (fun _ => 0))), (ax 21, .inl (G 0, 10, .inl (fun _ => 0))), (ax 22, .inl (G 0, 6, .inl (fun _ => 0))), (ax 23, .inl (G 0, 6, .inl (fun _ => 0))), (ax 24, .inl (G 0, 6, .inl (fun _ => 0))), (ax 25, .inl (G 3, 2, .inr (.inr (.inr (.inr (va_up (va_up (fun _ => none) 0 (some (ax 26))) 1 (some (ax 33)))))))), (ax 26, .inr (9, [.int (nI 0), .int (nI 0), .int (nI 5), .ref (ax 27), .ref (ax 28), .ref (ax 29), .ref (ax 30), .ref (ax 31), .ref (ax 32)])), (ax 27, .inl (G 0, 10, .inl (fun _ => 0))), (ax 28, .inl (G 0, 10, .inl (fun _ => 0))), (ax 29, .inl (G 0, 10, .inl (fun _ => 0))), (ax 30, .inl (G 0, 6, .inl (fun _ => 0))), (ax 31, .inl (G 0, 6, .inl (fun _ => 0))), (ax 32, .inl (G 0, 6, .inl (fun _ => 0))), (ax 33, .inr (9, [.int (nI 0), .int (nI 0), .int (nI 5), .ref (ax 34), .ref (ax 35), .ref (ax 36), .ref (ax 37), .ref (ax 38), .ref (ax 39)])), (ax 34, .inl (G 0, 10, .inl (fun _ => 0))), (ax 35, .inl (G 0, 10, .inl (fun _ => 0))), (ax 36, .inl (G 0, 10, .inl (fun _ => 0))), (ax 37, .inl (G 0, 6, .inl (fun _ => 0))), (ax 38, .inl (G 0, 6, .inl (fun _ => 0))), (ax 39, .inl (G 0, 6, .inl (fun _ => 0))), (ax 40, .inl (G 2, 2, .inl (fun _ => 0))), (ax 41, .inr (4, [.long 1, .ref (ax 42), .ref (ax 43)])), (ax 42, .inl (G 1, 10, .inr (.inl (fun _ => 0)))), (ax 43, .inl (G 1, 10, .inr (.inl (fun _ => 0)))), (ax 44, .inr (0, [.long 1, .ref (ax 45), .ref (ax 46)])), (ax 45, .inl (G 5, 11, .inr (.inr (.inr (.inr (fun ir => if ir < 11 then some (ax (47 + ir)) else none)))))), (ax 46, .inl (G 4, 10, .inr (.inr (.inr (.inr (fun ir => if ir < 10 then some (ax (58 + ir)) else none)))))), (ax 47, .inl (G 1, 70, .inr (.inl (fun _ => 0)))), (ax 48, .inl (G 1, 70, .inr (.inl (fun _ => 0)))), (ax 49, .inl (G 1, 70, .inr (.inl (fun _ => 0)))), (ax 50, .inl (G 1, 70, .inr (.inl (fun _ => 0)))), (ax 51, .inl (G 1, 70, .inr (.inl (fun _ => 0)))), (ax 52, .inl (G 1, 70, .inr (.inl (fun _ => 0)))), (ax 53, .inl (G 1, 70, .inr (.inl (fun _ => 0)))), (ax 54, .inl (G 1, 70, .inr (.inl (fun _ => 0)))), (ax 55, .inl (G 1, 70, .inr (.inl (fun _ => 0)))), (ax 56, .inl (G 1, 70, .inr (.inl (fun _ => 0)))), (ax 57, .inl (G 1, 70, .inr (.inl (fun _ => 0)))), (ax 58, .inl (G 0, 70, .inl (fun _ => 0))), (ax 59, .inl (G 0, 70, .inl (fun _ => 0))), (ax 60, .inl (G 0, 70, .inl (fun _ => 0))), (ax 61, .inl (G 0, 70, .inl (fun _ => 0))), (ax 62, .inl (G 0, 70, .inl (fun _ => 0))), (ax 63, .inl (G 0, 70, .inl (fun _ => 0))), (ax 64, .inl (G 0, 70, .inl (fun _ => 0))), (ax 65, .inl (G 0, 70, .inl (fun _ => 0))), (ax 66, .inl (G 0, 70, .inl (fun _ => 0))), (ax 67, .inl (G 0, 70, .inl (fun _ => 0))), (ax 68, .inr (1, [.int 0, .int 0, .int 0])), (ax 69, .inr (2, [.int (nI 0), .ref (ax 70), .ref (ax 71), .ref (ax 72), .ref (ax 73)])), (ax 70, .inl (G 0, 8, .inl (fun _ => 0))), (ax 71, .inl (G 0, 8, .inl (fun _ => 0))), (ax 72, .inl (G 0, 8, .inl (fun _ => 0))), (ax 73, .inl (G 0, 8, .inl (fun _ => 0))), (ax 74, .inr (3, [.int (nI 0), .ref (ax 75), .ref (ax 76)])), (ax 75, .inl (G 0, 6, .inl (fun _ => 0))), (ax 76, .inl (G 0, 6, .inl (fun _ => 0))), (ax 77, .inr (8, [.int 0, .ref (ax 78), .ref (ax 79)])), (ax 78, .inl (G 4, 11, .inr (.inr (.inr (.inr (fun ir => if ir < 11 then some (ax (80 + ir)) else none)))))), (ax 79, .inl (G 4, 11, .inr (.inr (.inr (.inr (fun ir => if ir < 11 then some (ax (91 + ir)) else none)))))), (ax 80, .inl (G 0, 10, .inl (fun _ => 0))), (ax 81, .inl (G 0, 10, .inl (fun _ => 0))), (ax 82, .inl (G 0, 10, .inl (fun _ => 0))), (ax 83, .inl (G 0, 10, .inl (fun _ => 0))), (ax 84, .inl (G 0, 10, .inl (fun _ => 0))), (ax 85, .inl (G 0, 10, .inl (fun _ => 0))), (ax 86, .inl (G 0, 10, .inl (fun _ => 0))), (ax 87, .inl (G 0, 10, .inl (fun _ => 0))), (ax 88, .inl (G 0, 10, .inl (fun _ => 0))), (ax 89, .inl (G 0, 10, .inl (fun _ => 0))), (ax 90, .inl (G 0, 10, .inl (fun _ => 0))), (ax 91, .inl (G 0, 10, .inl (fun _ => 0))), (ax 92, .inl (G 0, 10, .inl (fun _ => 0))), (ax 93, .inl (G 0, 10, .inl (fun _ => 0))), (ax 94, .inl (G 0, 10, .inl (fun _ => 0))), (ax 95, .inl (G 0, 10, .inl (fun _ => 0))), (ax 96, .inl (G 0, 10, .inl (fun _ => 0))), (ax 97, .inl (G 0, 10, .inl (fun _ => 0))), (ax 98, .inl (G 0, 10, .inl (fun _ => 0))), (ax 99, .inl (G 0, 10, .inl (fun _ => 0))), (ax 100, .inl (G 0, 10, .inl (fun _ => 0))), (ax 101, .inl (G 0, 10, .inl (fun _ => 0))), (ax 102, .inr (6, [.ref (ax 103), .ref (ax 104), .ref (ax 105), .int 0, .int 0, .ref (ax 106), .ref (ax 107)])), (ax 103, .inl (G 0, 4, .inl (upd (upd (upd (upd (fun _ => 0) 0 (-1)) 1 (-1)) 2 (-1)) 3 (-1)))), (ax 104, .inl (G 0, 4, .inl (fun _ => 0))), (ax 105, .inl (G 4, 4, .inr (.inr (.inr (.inr (fun ir => if ir < 4 then some (ax (108 + ir)) else none)))))), (ax 106, .inl (G 0, 20, .inl (fun _ => 0))), (ax 107, .inl (G 0, 20, .inl (fun _ => 0))), (ax 108, .inl (G 0, 40, .inl (fun _ => 0))), (ax 109, .inl (G 0, 40, .inl (fun _ => 0))), (ax 110, .inl (G 0, 40, .inl (fun _ => 0))), (ax 111, .inl (G 0, 40, .inl (fun _ => 0))), (ax 112, .inr (11, [.ref (ax 113), .int (nI 0), .int (nI 0), .ref (ax 114), .int 0, .int 0, .int 0, .int 0, .int 0, .int 0, .ref (ax 115), .int (nI 0), .int 0, .int 0, .int 0, .int 0, .int (nI 0), .int 0, .int 0, .ref (ax 116), .ref (ax 117), .ref (ax 118), .ref (ax 119), .ref (ax 120), .ref (ax 121), .int (nI 0), .ref (ax 122), .int (nI 0), .ref (ax 123), .ref (ax 124), .ref (ax 125), .ref (ax 126), .ref (ax 127), .ref (ax 128), .int 0])), (ax 113, .inl (G 0, 196, .inl (fun _ => 0))), (ax 114, .inl (G 0, 49, .inl (fun _ => 0))), (ax 115, .inl (G 0, 320, .inl (fun _ => 0))), (ax 116, .inl (G 0, 11, .inl (upd (upd (upd (upd (upd (upd (upd (upd (upd (upd (upd (fun _ => 0) 0 0) 1 5) 2 12) 3 18) 4 23) 5 28) 6 34) 7 42) 8 46) 9 50) 10 54))), (ax 117, .inl (G 0, 54, .inl fl)), (ax 118, .inl (G 1, 10, .inr (.inl (fun _ => 0)))), (ax 119, .inl (G 1, 10, .inr (.inl (fun _ => 0)))), (ax 120, .inl (G 1, 770, .inr (.inl (fun _ => 0)))), (ax 121, .inl (G 0, 32, .inl (fun _ => 0))), (ax 122, .inl (G 0, 12, .inl (fun _ => 0))), (ax 123, .inl (G 0, 110, .inl (fun _ => 0))), (ax 124, .inl (G 0, 110, .inl (fun _ => 0))), (ax 125, .inl (G 2, 2, .inl (fun _ => 0))), (ax 126, .inl (G 0, 4, .inl (lmap (upd (upd (upd (upd (fun _ => 0) 0 (-1)) 1 (-1)) 2 (-1)) 3 (-1))))), (ax 127, .inl (G 0, 4, .inl (fun _ => 0))), (ax 128, .inl (G 0, 160, .inl (fun _ => 0)))] H) : LI dC dI G ax H := by
  have f0 : X10Pr dC dI G ax 0 H := ⟨0, hP 0 _ rfl⟩
  have f1 : X10P0 dC dI G ax H := ⟨0, 0, 0, 0, 0, 0, 0, 0, 0, 0, hP 1 _ rfl⟩
  have f2 : X10P0_0 dC dI G ax 0 (fun _ => 0) H := ⟨(by decide), hP 2 _ rfl, hP 3 _ rfl⟩
  have f3 : X10P0_1 dC dI G ax H := ⟨0, 0, 5, (fun _ => 0), (fun _ => 0), (fun _ => 0), (fun _ => 0), (fun _ => 0), (fun _ => 0), (by decide), (by decide), (by decide), hP 4 _ rfl, hP 5 _ rfl, hP 6 _ rfl, hP 7 _ rfl, hP 8 _ rfl, hP 9 _ rfl, hP 10 _ rfl⟩
  have f4 : X10P1 dC dI G ax (fun _ => 0) 0 0 H := ⟨5, (fun _ => 0), (fun _ => 0), (fun _ => 0), (fun _ => 0), (fun _ => 0), (fun _ => 0), ⟨by decide, fun i h => absurd h (Nat.not_lt_zero _), fun i h => absurd h (Nat.not_lt_zero _)⟩, (by decide), (by decide), (by decide), hP 11 _ rfl, hP 12 _ rfl, hP 13 _ rfl, hP 14 _ rfl, hP 15 _ rfl, hP 16 _ rfl, hP 17 _ rfl⟩
  have f5 : X10P2 dC dI G ax H := ⟨0, 0, 5, (fun _ => 0), (fun _ => 0), (fun _ => 0), (fun _ => 0), (fun _ => 0), (fun _ => 0), (by decide), (by decide), (by decide), hP 18 _ rfl, hP 19 _ rfl, hP 20 _ rfl, hP 21 _ rfl, hP 22 _ rfl, hP 23 _ rfl, hP 24 _ rfl⟩
  have f6 : X10P3 dC dI G ax H := hP 25 _ rfl
  have f7 : X10P3_0 dC dI G ax (fun _ => 0) 0 0 H := ⟨5, (fun _ => 0), (fun _ => 0), (fun _ => 0), (fun _ => 0), (fun _ => 0), (fun _ => 0), ⟨by decide, fun i h => absurd h (Nat.not_lt_zero _), fun i h => absurd h (Nat.not_lt_zero _)⟩, (by decide), (by decide), (by decide), hP 26 _ rfl, hP 27 _ rfl, hP 28 _ rfl, hP 29 _ rfl, hP 30 _ rfl, hP 31 _ rfl, hP 32 _ rfl⟩
  have f8 : X10P3_1 dC dI G ax (fun _ => 0) 0 0 H := ⟨5, (fun _ => 0), (fun _ => 0), (fun _ => 0), (fun _ => 0), (fun _ => 0), (fun _ => 0), ⟨by decide, fun i h => absurd h (Nat.not_lt_zero _), fun i h => absurd h (Nat.not_lt_zero _)⟩, (by decide), (by decide), (by decide), hP 33 _ rfl, hP 34 _ rfl, hP 35 _ rfl, hP 36 _ rfl, hP 37 _ rfl, hP 38 _ rfl, hP 39 _ rfl⟩
  have f9 : X10P4 dC dI G ax (fun _ => 0) H := hP 40 _ rfl
  have f10 : X10P5 dC dI G ax H := ⟨1, (fun _ => 0), (fun _ => 0), hP 41 _ rfl, hP 42 _ rfl, hP 43 _ rfl⟩
  have f11 : X10P6 dC dI G ax H := ⟨1, (fun _ _ => 0), (fun _ _ => 0), hP 44 _ rfl, hP 45 _ rfl, hP 46 _ rfl, hP.sub [47, 48, 49, 50, 51, 52, 53, 54, 55, 56, 57] rfl, hP.sub [58, 59, 60, 61, 62, 63, 64, 65, 66, 67] rfl⟩
  have f12 : X10P7 dC dI G ax H := ⟨0, 0, 0, hP 68 _ rfl⟩
  have f13 : X10P8 dC dI G ax 0 H := ⟨(fun _ => 0), (fun _ => 0), (fun _ => 0), (fun _ => 0), (by decide), hP 69 _ rfl, hP 70 _ rfl, hP 71 _ rfl, hP 72 _ rfl, hP 73 _ rfl⟩
  have f14 : X10P9 dC dI G ax 0 H := ⟨(fun _ => 0), (fun _ => 0), (by decide), hP 74 _ rfl, hP 75 _ rfl, hP 76 _ rfl⟩
  have f15 : X10P10 dC dI G ax H := ⟨0, (fun _ _ => 0), (fun _ _ => 0), hP 77 _ rfl, hP 78 _ rfl, hP 79 _ rfl, hP.sub [80, 81, 82, 83, 84, 85, 86, 87, 88, 89, 90] rfl, hP.sub [91, 92, 93, 94, 95, 96, 97, 98, 99, 100, 101] rfl⟩
  have f16 : X10P11 dC dI G ax (upd (upd (upd (upd (fun _ => 0) 0 (-1)) 1 (-1)) 2 (-1)) 3 (-1)) (fun _ => 0) H := ⟨0, 0, (fun _ => 0), (fun _ => 0), (fun _ _ => 0), E0_inv, (fun q _ => by show 0 ≤ (0 : Int32).toInt ∧ (0 : Int32).toInt ≤ 40; decide), hP 102 _ rfl, hP 103 _ rfl, hP 104 _ rfl, hP 105 _ rfl, hP 106 _ rfl, hP 107 _ rfl, hP.sub [108, 109, 110, 111] rfl⟩
  have f17 : X11Pr dC dI G ax 0 0 0 0 0 0 H := ⟨0, 0, 0, 0, 0, 0, 0, 0, 0, 0, 0, 0, 0, (by decide), (by decide), (by decide), (by decide), (by decide), (by decide), (by decide), hP 112 _ rfl⟩
  have f18 : X11P0 dC dI G ax (fun _ => 0) (fun _ => 0) (fun _ => 0) 0 0 0 0 0 0 H := ⟨(fun _ => 0), (by decide), (by decide), (by decide), (by decide), (fun x h => rfl), (fun x h => rfl), (fun x h => rfl), OKS0, hP 113 _ rfl⟩
  have f19 : X11P3 dC dI G ax H := ⟨(fun _ => 0), hP 114 _ rfl⟩
  have f20 : X11P10 dC dI G ax (fun _ => 0) H := ⟨(fun q _ => by show 0 ≤ (0 : Int32).toInt; decide), hP 115 _ rfl⟩
  have f21 : X11P19 dC dI G ax H := ⟨(upd (upd (upd (upd (upd (upd (upd (upd (upd (upd (upd (fun _ => 0) 0 0) 1 5) 2 12) 3 18) 4 23) 5 28) 6 34) 7 42) 8 46) 9 50) 10 54), cut0, hP 116 _ rfl⟩
  have f22 : X11P20 dC dI G ax H := ⟨fl, hfl, hP 117 _ rfl⟩
  have f23 : X11P21 dC dI G ax H := ⟨(fun _ => 0), hP 118 _ rfl⟩
  have f24 : X11P22 dC dI G ax H := ⟨(fun _ => 0), hP 119 _ rfl⟩
  have f25 : X11P23 dC dI G ax H := ⟨(fun _ => 0), hP 120 _ rfl⟩
  have f26 : X11P24 dC dI G ax H := ⟨(fun _ => 0), OKL0, hP 121 _ rfl⟩
  have f27 : X11P26 dC dI G ax H := ⟨(fun _ => 0), hP 122 _ rfl⟩
  have f28 : X11P28 dC dI G ax H := ⟨(fun _ => 0), hP 123 _ rfl⟩
  have f29 : X11P29 dC dI G ax H := ⟨(fun _ => 0), hP 124 _ rfl⟩
  have f30 : X11P30 dC dI G ax (fun _ => 0) H := hP 125 _ rfl
  have f31 : X11P31 dC dI G ax (upd (upd (upd (upd (fun _ => 0) 0 (-1)) 1 (-1)) 2 (-1)) 3 (-1)) H := ⟨E0_inv, hP 126 _ rfl⟩
  have f32 : X11P32 dC dI G ax (fun _ => 0) H := ⟨(fun q _ => by show 0 ≤ (0 : Int32).toInt ∧ (0 : Int32).toInt ≤ 40; decide), hP 127 _ rfl⟩
  have f33 : X11P33 dC dI G ax H := ⟨(fun _ => 0), hP 128 _ rfl⟩
  exact ⟨0, (fun _ => 0), 0, (fun _ => 0), (fun _ => 0), (fun _ => 0), 0, 0, 0, 0, 0, 0, (fun _ => 0), 0, 0, (upd (upd (upd (upd (fun _ => 0) 0 (-1)) 1 (-1)) 2 (-1)) 3 (-1)), (fun _ => 0), ⟨f0, f1, f2, f3, f4, f5, f6, f7, f8, f9, f10, f11, f12, f13, f14, f15, f16, ⟨Or.inl rfl, Or.inl rfl⟩⟩, ⟨f17, f18, f19, f20, f21, f22, f23, f24, f25, f26, f27, f28, f29, f30, f31, f32, f33, ⟨Or.inl rfl, Or.inl rfl⟩⟩⟩

set_option maxHeartbeats 4000000 in
set_option maxRecDepth 100000 in
theorem whole_start {p : Program} {e : Env} {s : State} {m : MethodId} {below : List Frame} {meth : Method} {c : Code} (l : Launch) {b L : Nat} {xs : Nat → Int32} (hL : L ≤ 2560) (C0 : lw_At p s m meth c b L xs) : W p l e room_1 s m #[Value.ref b] below meth c s.heap [] 0 0 (lw_Z below #[Value.ref b] s) (entryFrame m ([Value.ref b] : List Value).toArray 4) := by
  obtain ⟨hx, hb, hr, hml, hown, hts, hX, hbl, hlocks, hgv⟩ := id C0
  have hown : s.vm.findClass RL = some m.cls := hown
  have hg : ∀ w ∈ GT, w.before #[Value.ref b] s = true := fun w h => hts w (List.mem_filter.mp h).1
  obtain ⟨dC, dI, G, hK⟩ := law_K hts
  obtain ⟨A, hAd⟩ : ∃ A : Nat → Prop, A = (fun q : Nat => s.heap.size ≤ q) := ⟨_, rfl⟩
  have hA : ∀ q : Nat, s.heap.size ≤ q → A q := fun q h => by rw [hAd]; exact h
  have hbA : ¬ A b := by rw [hAd]; exact Nat.not_le.mpr hbl
  have hS : va_S A s.heap s.heap [] := va_S.rf
  have hP : va_P (dC, dI) vwCl [] s.heap := va_nilP
  have hD : va_D A [] := va_nilD
  have hl := lv_entry ([.ref b]) (n := 4) (Nat.le_of_ble_eq_true rfl)
  rw [lg_entry_eq]
  generalize (lg_sl ([.ref b]) ++ List.replicate (4 - (lg_sl ([.ref b])).length) Slot.unset).toArray = ls at hl ⊢
  have hl : lv_has ls 4 [(0, .ref b)] := hl
  refine va_new (ci := 10) (fs := [.null, .null, .null, .null, .null, .null, .null, .null, .null, .null, .null, .null, .int 0, .int 0]) (C := RX10) (T := TX10) (N := 14) hx hb hg inG10 tyX10 tyX10_ok hown (hg _ wt_20) (hg _ wt_21) (hg _ wt_1) hK.1 hP hD hS hA rfl nwX10 (Nat.le_of_ble_eq_true rfl) (Nat.le_of_ble_eq_true rfl) dL_law_0 (fun q1 H hP hD hS => ?_)
  obtain ⟨hP, hD⟩ := va_rls (ws' := [(q1, .inr (10, [.null, .null, .null, .null, .null, .null, .null, .null, .null, .null, .null, .null, .int 0, .int 0]))]) hP hD rfl
  refine W.widen (k := 1) (n := 14) (by omega) (by omega) ?_
  refine lv_dup hx hb dL_law_3 rfl ?_
  have hPc := hP.sub (ws' := [(q1, .inr (10, [.null, .null, .null, .null, .null, .null, .null, .null, .null, .null, .null, .null, .int 0, .int 0]))]) [0] rfl
  have hDc := hD.sub (ws' := [(q1, .inr (10, [.null, .null, .null, .null, .null, .null, .null, .null, .null, .null, .null, .null, .int 0, .int 0]))]) [0] (by decide) rfl
  have hFc := va_free (wc := [(q1, .inr (10, [.null, .null, .null, .null, .null, .null, .null, .null, .null, .null, .null, .null, .int 0, .int 0]))]) hD hS hA [0] rfl
  refine va_callv (va_runI (As := []) (rest := [.ref q1]) ⟨hx, hb, hml, hown, hg⟩ (c_X10_init l dC dI G _ q1 ) (kwI hg mfX10_init wt_22 ⟨Nat.le_of_ble_eq_true rfl, Nat.le_of_ble_eq_true rfl⟩) (preSW hK hPc hDc) rfl rfl hl.1 rfl (lv_room (Nat.le_of_ble_eq_true rfl)) dL_law_4 ⟨Nat.le_of_ble_eq_true rfl, Nat.le_of_ble_eq_true rfl⟩) hS (fun q _ h => hFc q h) hFc (fun ur2 t H1 locs ht hvm w3 hB hz1 hk1 hS => ?_)
  obtain ⟨u4, u5, u6, u7, u8, u9⟩ := ur2
  obtain ⟨hP1, hD1⟩ := hB
  rw [ht] at hP1
  obtain ⟨hP, hD⟩ := va_join (wr := []) (w1 := [(q1, .inr (10, [.ref (u4 0), .ref (u4 1), .ref (u4 2), .ref (u4 3), .ref (u4 4), .ref (u4 5), .ref (u4 6), .ref (u4 7), .ref (u4 8), .ref (u4 9), .ref (u4 10), .ref (u4 11), .int 0, .int 0])), ((u4 0), .inr (5, [.ref (u4 12), .ref (u4 13), .int 0, .int 0, .int 0, .int 0, .int 0, .int 0, .int 0, .int 0, .int 0, .int 0])), ((u4 12), .inr (7, [.int 0, .ref (u4 14)])), ((u4 14), .inl (G 0, 320, .inl (fun _ => 0))), ((u4 13), .inr (9, [.int 0, .int 0, .int 5, .ref (u4 15), .ref (u4 16), .ref (u4 17), .ref (u4 18), .ref (u4 19), .ref (u4 20)])), ((u4 15), .inl (G 0, 10, .inl (fun _ => 0))), ((u4 16), .inl (G 0, 10, .inl (fun _ => 0))), ((u4 17), .inl (G 0, 10, .inl (fun _ => 0))), ((u4 18), .inl (G 0, 6, .inl (fun _ => 0))), ((u4 19), .inl (G 0, 6, .inl (fun _ => 0))), ((u4 20), .inl (G 0, 6, .inl (fun _ => 0))), ((u4 1), .inr (9, [.int 0, .int 0, .int 5, .ref (u4 21), .ref (u4 22), .ref (u4 23), .ref (u4 24), .ref (u4 25), .ref (u4 26)])), ((u4 21), .inl (G 0, 10, .inl (fun _ => 0))), ((u4 22), .inl (G 0, 10, .inl (fun _ => 0))), ((u4 23), .inl (G 0, 10, .inl (fun _ => 0))), ((u4 24), .inl (G 0, 6, .inl (fun _ => 0))), ((u4 25), .inl (G 0, 6, .inl (fun _ => 0))), ((u4 26), .inl (G 0, 6, .inl (fun _ => 0))), ((u4 2), .inr (9, [.int 0, .int 0, .int 5, .ref (u4 27), .ref (u4 28), .ref (u4 29), .ref (u4 30), .ref (u4 31), .ref (u4 32)])), ((u4 27), .inl (G 0, 10, .inl (fun _ => 0))), ((u4 28), .inl (G 0, 10, .inl (fun _ => 0))), ((u4 29), .inl (G 0, 10, .inl (fun _ => 0))), ((u4 30), .inl (G 0, 6, .inl (fun _ => 0))), ((u4 31), .inl (G 0, 6, .inl (fun _ => 0))), ((u4 32), .inl (G 0, 6, .inl (fun _ => 0))), ((u4 3), .inl (G 3, 2, .inr (.inr (.inr (.inr (va_up (va_up (fun _ => none) 0 (some (u4 33))) 1 (some (u4 34)))))))), ((u4 33), .inr (9, [.int 0, .int 0, .int 5, .ref (u4 35), .ref (u4 36), .ref (u4 37), .ref (u4 38), .ref (u4 39), .ref (u4 40)])), ((u4 35), .inl (G 0, 10, .inl (fun _ => 0))), ((u4 36), .inl (G 0, 10, .inl (fun _ => 0))), ((u4 37), .inl (G 0, 10, .inl (fun _ => 0))), ((u4 38), .inl (G 0, 6, .inl (fun _ => 0))), ((u4 39), .inl (G 0, 6, .inl (fun _ => 0))), ((u4 40), .inl (G 0, 6, .inl (fun _ => 0))), ((u4 34), .inr (9, [.int 0, .int 0, .int 5, .ref (u4 41), .ref (u4 42), .ref (u4 43), .ref (u4 44), .ref (u4 45), .ref (u4 46)])), ((u4 41), .inl (G 0, 10, .inl (fun _ => 0))), ((u4 42), .inl (G 0, 10, .inl (fun _ => 0))), ((u4 43), .inl (G 0, 10, .inl (fun _ => 0))), ((u4 44), .inl (G 0, 6, .inl (fun _ => 0))), ((u4 45), .inl (G 0, 6, .inl (fun _ => 0))), ((u4 46), .inl (G 0, 6, .inl (fun _ => 0))), ((u4 4), .inl (G 2, 2, .inl (fun _ => 0))), ((u4 5), .inr (4, [.long 1, .ref (u4 47), .ref (u4 48)])), ((u4 47), .inl (G 1, 10, .inr (.inl (fun _ => 0)))), ((u4 48), .inl (G 1, 10, .inr (.inl (fun _ => 0)))), ((u4 6), .inr (0, [.long 1, .ref (u4 49), .ref (u4 50)])), ((u4 49), .inl (G 5, 11, .inr (.inr (.inr (.inr (fun ir => if ir < 11 then some (u5 ir) else none)))))), ((u4 50), .inl (G 4, 10, .inr (.inr (.inr (.inr (fun ir => if ir < 10 then some (u6 ir) else none)))))), ((u5 0), .inl (G 1, 70, .inr (.inl (fun _ => 0)))), ((u5 1), .inl (G 1, 70, .inr (.inl (fun _ => 0)))), ((u5 2), .inl (G 1, 70, .inr (.inl (fun _ => 0)))), ((u5 3), .inl (G 1, 70, .inr (.inl (fun _ => 0)))), ((u5 4), .inl (G 1, 70, .inr (.inl (fun _ => 0)))), ((u5 5), .inl (G 1, 70, .inr (.inl (fun _ => 0)))), ((u5 6), .inl (G 1, 70, .inr (.inl (fun _ => 0)))), ((u5 7), .inl (G 1, 70, .inr (.inl (fun _ => 0)))), ((u5 8), .inl (G 1, 70, .inr (.inl (fun _ => 0)))), ((u5 9), .inl (G 1, 70, .inr (.inl (fun _ => 0)))), ((u5 10), .inl (G 1, 70, .inr (.inl (fun _ => 0)))), ((u6 0), .inl (G 0, 70, .inl (fun _ => 0))), ((u6 1), .inl (G 0, 70, .inl (fun _ => 0))), ((u6 2), .inl (G 0, 70, .inl (fun _ => 0))), ((u6 3), .inl (G 0, 70, .inl (fun _ => 0))), ((u6 4), .inl (G 0, 70, .inl (fun _ => 0))), ((u6 5), .inl (G 0, 70, .inl (fun _ => 0))), ((u6 6), .inl (G 0, 70, .inl (fun _ => 0))), ((u6 7), .inl (G 0, 70, .inl (fun _ => 0))), ((u6 8), .inl (G 0, 70, .inl (fun _ => 0))), ((u6 9), .inl (G 0, 70, .inl (fun _ => 0))), ((u4 7), .inr (1, [.int 0, .int 0, .int 0])), ((u4 8), .inr (2, [.int 0, .ref (u4 51), .ref (u4 52), .ref (u4 53), .ref (u4 54)])), ((u4 51), .inl (G 0, 8, .inl (fun _ => 0))), ((u4 52), .inl (G 0, 8, .inl (fun _ => 0))), ((u4 53), .inl (G 0, 8, .inl (fun _ => 0))), ((u4 54), .inl (G 0, 8, .inl (fun _ => 0))), ((u4 9), .inr (3, [.int 0, .ref (u4 55), .ref (u4 56)])), ((u4 55), .inl (G 0, 6, .inl (fun _ => 0))), ((u4 56), .inl (G 0, 6, .inl (fun _ => 0))), ((u4 10), .inr (8, [.int 0, .ref (u4 57), .ref (u4 58)])), ((u4 57), .inl (G 4, 11, .inr (.inr (.inr (.inr (fun ir => if ir < 11 then some (u7 ir) else none)))))), ((u4 58), .inl (G 4, 11, .inr (.inr (.inr (.inr (fun ir => if ir < 11 then some (u8 ir) else none)))))), ((u7 0), .inl (G 0, 10, .inl (fun _ => 0))), ((u7 1), .inl (G 0, 10, .inl (fun _ => 0))), ((u7 2), .inl (G 0, 10, .inl (fun _ => 0))), ((u7 3), .inl (G 0, 10, .inl (fun _ => 0))), ((u7 4), .inl (G 0, 10, .inl (fun _ => 0))), ((u7 5), .inl (G 0, 10, .inl (fun _ => 0))), ((u7 6), .inl (G 0, 10, .inl (fun _ => 0))), ((u7 7), .inl (G 0, 10, .inl (fun _ => 0))), ((u7 8), .inl (G 0, 10, .inl (fun _ => 0))), ((u7 9), .inl (G 0, 10, .inl (fun _ => 0))), ((u7 10), .inl (G 0, 10, .inl (fun _ => 0))), ((u8 0), .inl (G 0, 10, .inl (fun _ => 0))), ((u8 1), .inl (G 0, 10, .inl (fun _ => 0))), ((u8 2), .inl (G 0, 10, .inl (fun _ => 0))), ((u8 3), .inl (G 0, 10, .inl (fun _ => 0))), ((u8 4), .inl (G 0, 10, .inl (fun _ => 0))), ((u8 5), .inl (G 0, 10, .inl (fun _ => 0))), ((u8 6), .inl (G 0, 10, .inl (fun _ => 0))), ((u8 7), .inl (G 0, 10, .inl (fun _ => 0))), ((u8 8), .inl (G 0, 10, .inl (fun _ => 0))), ((u8 9), .inl (G 0, 10, .inl (fun _ => 0))), ((u8 10), .inl (G 0, 10, .inl (fun _ => 0))), ((u4 11), .inr (6, [.ref (u4 59), .ref (u4 60), .ref (u4 61), .int 0, .int 0, .ref (u4 62), .ref (u4 63)])), ((u4 59), .inl (G 0, 4, .inl (upd (upd (upd (upd (fun _ => 0) 0 (-1)) 1 (-1)) 2 (-1)) 3 (-1)))), ((u4 60), .inl (G 0, 4, .inl (fun _ => 0))), ((u4 61), .inl (G 4, 4, .inr (.inr (.inr (.inr (fun ir => if ir < 4 then some (u9 ir) else none)))))), ((u4 62), .inl (G 0, 20, .inl (fun _ => 0))), ((u4 63), .inl (G 0, 20, .inl (fun _ => 0))), ((u9 0), .inl (G 0, 40, .inl (fun _ => 0))), ((u9 1), .inl (G 0, 40, .inl (fun _ => 0))), ((u9 2), .inl (G 0, 40, .inl (fun _ => 0))), ((u9 3), .inl (G 0, 40, .inl (fun _ => 0)))]) hP hD [0] [] rfl rfl (by decide +kernel) (by decide +kernel) hk1 hFc hP1 hD1
  generalize H1 = H at hP hS ⊢
  obtain ⟨hP, hD⟩ := va_rls (ws' := [(q1, .inr (10, [.ref (u4 0), .ref (u4 1), .ref (u4 2), .ref (u4 3), .ref (u4 4), .ref (u4 5), .ref (u4 6), .ref (u4 7), .ref (u4 8), .ref (u4 9), .ref (u4 10), .ref (u4 11), .int 0, .int 0])), ((u4 0), .inr (5, [.ref (u4 12), .ref (u4 13), .int 0, .int 0, .int 0, .int 0, .int 0, .int 0, .int 0, .int 0, .int 0, .int 0])), ((u4 12), .inr (7, [.int 0, .ref (u4 14)])), ((u4 14), .inl (G 0, 320, .inl (fun _ => 0))), ((u4 13), .inr (9, [.int 0, .int 0, .int 5, .ref (u4 15), .ref (u4 16), .ref (u4 17), .ref (u4 18), .ref (u4 19), .ref (u4 20)])), ((u4 15), .inl (G 0, 10, .inl (fun _ => 0))), ((u4 16), .inl (G 0, 10, .inl (fun _ => 0))), ((u4 17), .inl (G 0, 10, .inl (fun _ => 0))), ((u4 18), .inl (G 0, 6, .inl (fun _ => 0))), ((u4 19), .inl (G 0, 6, .inl (fun _ => 0))), ((u4 20), .inl (G 0, 6, .inl (fun _ => 0))), ((u4 1), .inr (9, [.int 0, .int 0, .int 5, .ref (u4 21), .ref (u4 22), .ref (u4 23), .ref (u4 24), .ref (u4 25), .ref (u4 26)])), ((u4 21), .inl (G 0, 10, .inl (fun _ => 0))), ((u4 22), .inl (G 0, 10, .inl (fun _ => 0))), ((u4 23), .inl (G 0, 10, .inl (fun _ => 0))), ((u4 24), .inl (G 0, 6, .inl (fun _ => 0))), ((u4 25), .inl (G 0, 6, .inl (fun _ => 0))), ((u4 26), .inl (G 0, 6, .inl (fun _ => 0))), ((u4 2), .inr (9, [.int 0, .int 0, .int 5, .ref (u4 27), .ref (u4 28), .ref (u4 29), .ref (u4 30), .ref (u4 31), .ref (u4 32)])), ((u4 27), .inl (G 0, 10, .inl (fun _ => 0))), ((u4 28), .inl (G 0, 10, .inl (fun _ => 0))), ((u4 29), .inl (G 0, 10, .inl (fun _ => 0))), ((u4 30), .inl (G 0, 6, .inl (fun _ => 0))), ((u4 31), .inl (G 0, 6, .inl (fun _ => 0))), ((u4 32), .inl (G 0, 6, .inl (fun _ => 0))), ((u4 3), .inl (G 3, 2, .inr (.inr (.inr (.inr (va_up (va_up (fun _ => none) 0 (some (u4 33))) 1 (some (u4 34)))))))), ((u4 33), .inr (9, [.int 0, .int 0, .int 5, .ref (u4 35), .ref (u4 36), .ref (u4 37), .ref (u4 38), .ref (u4 39), .ref (u4 40)])), ((u4 35), .inl (G 0, 10, .inl (fun _ => 0))), ((u4 36), .inl (G 0, 10, .inl (fun _ => 0))), ((u4 37), .inl (G 0, 10, .inl (fun _ => 0))), ((u4 38), .inl (G 0, 6, .inl (fun _ => 0))), ((u4 39), .inl (G 0, 6, .inl (fun _ => 0))), ((u4 40), .inl (G 0, 6, .inl (fun _ => 0))), ((u4 34), .inr (9, [.int 0, .int 0, .int 5, .ref (u4 41), .ref (u4 42), .ref (u4 43), .ref (u4 44), .ref (u4 45), .ref (u4 46)])), ((u4 41), .inl (G 0, 10, .inl (fun _ => 0))), ((u4 42), .inl (G 0, 10, .inl (fun _ => 0))), ((u4 43), .inl (G 0, 10, .inl (fun _ => 0))), ((u4 44), .inl (G 0, 6, .inl (fun _ => 0))), ((u4 45), .inl (G 0, 6, .inl (fun _ => 0))), ((u4 46), .inl (G 0, 6, .inl (fun _ => 0))), ((u4 4), .inl (G 2, 2, .inl (fun _ => 0))), ((u4 5), .inr (4, [.long 1, .ref (u4 47), .ref (u4 48)])), ((u4 47), .inl (G 1, 10, .inr (.inl (fun _ => 0)))), ((u4 48), .inl (G 1, 10, .inr (.inl (fun _ => 0)))), ((u4 6), .inr (0, [.long 1, .ref (u4 49), .ref (u4 50)])), ((u4 49), .inl (G 5, 11, .inr (.inr (.inr (.inr (fun ir => if ir < 11 then some (u5 ir) else none)))))), ((u4 50), .inl (G 4, 10, .inr (.inr (.inr (.inr (fun ir => if ir < 10 then some (u6 ir) else none)))))), ((u5 0), .inl (G 1, 70, .inr (.inl (fun _ => 0)))), ((u5 1), .inl (G 1, 70, .inr (.inl (fun _ => 0)))), ((u5 2), .inl (G 1, 70, .inr (.inl (fun _ => 0)))), ((u5 3), .inl (G 1, 70, .inr (.inl (fun _ => 0)))), ((u5 4), .inl (G 1, 70, .inr (.inl (fun _ => 0)))), ((u5 5), .inl (G 1, 70, .inr (.inl (fun _ => 0)))), ((u5 6), .inl (G 1, 70, .inr (.inl (fun _ => 0)))), ((u5 7), .inl (G 1, 70, .inr (.inl (fun _ => 0)))), ((u5 8), .inl (G 1, 70, .inr (.inl (fun _ => 0)))), ((u5 9), .inl (G 1, 70, .inr (.inl (fun _ => 0)))), ((u5 10), .inl (G 1, 70, .inr (.inl (fun _ => 0)))), ((u6 0), .inl (G 0, 70, .inl (fun _ => 0))), ((u6 1), .inl (G 0, 70, .inl (fun _ => 0))), ((u6 2), .inl (G 0, 70, .inl (fun _ => 0))), ((u6 3), .inl (G 0, 70, .inl (fun _ => 0))), ((u6 4), .inl (G 0, 70, .inl (fun _ => 0))), ((u6 5), .inl (G 0, 70, .inl (fun _ => 0))), ((u6 6), .inl (G 0, 70, .inl (fun _ => 0))), ((u6 7), .inl (G 0, 70, .inl (fun _ => 0))), ((u6 8), .inl (G 0, 70, .inl (fun _ => 0))), ((u6 9), .inl (G 0, 70, .inl (fun _ => 0))), ((u4 7), .inr (1, [.int 0, .int 0, .int 0])), ((u4 8), .inr (2, [.int 0, .ref (u4 51), .ref (u4 52), .ref (u4 53), .ref (u4 54)])), ((u4 51), .inl (G 0, 8, .inl (fun _ => 0))), ((u4 52), .inl (G 0, 8, .inl (fun _ => 0))), ((u4 53), .inl (G 0, 8, .inl (fun _ => 0))), ((u4 54), .inl (G 0, 8, .inl (fun _ => 0))), ((u4 9), .inr (3, [.int 0, .ref (u4 55), .ref (u4 56)])), ((u4 55), .inl (G 0, 6, .inl (fun _ => 0))), ((u4 56), .inl (G 0, 6, .inl (fun _ => 0))), ((u4 10), .inr (8, [.int 0, .ref (u4 57), .ref (u4 58)])), ((u4 57), .inl (G 4, 11, .inr (.inr (.inr (.inr (fun ir => if ir < 11 then some (u7 ir) else none)))))), ((u4 58), .inl (G 4, 11, .inr (.inr (.inr (.inr (fun ir => if ir < 11 then some (u8 ir) else none)))))), ((u7 0), .inl (G 0, 10, .inl (fun _ => 0))), ((u7 1), .inl (G 0, 10, .inl (fun _ => 0))), ((u7 2), .inl (G 0, 10, .inl (fun _ => 0))), ((u7 3), .inl (G 0, 10, .inl (fun _ => 0))), ((u7 4), .inl (G 0, 10, .inl (fun _ => 0))), ((u7 5), .inl (G 0, 10, .inl (fun _ => 0))), ((u7 6), .inl (G 0, 10, .inl (fun _ => 0))), ((u7 7), .inl (G 0, 10, .inl (fun _ => 0))), ((u7 8), .inl (G 0, 10, .inl (fun _ => 0))), ((u7 9), .inl (G 0, 10, .inl (fun _ => 0))), ((u7 10), .inl (G 0, 10, .inl (fun _ => 0))), ((u8 0), .inl (G 0, 10, .inl (fun _ => 0))), ((u8 1), .inl (G 0, 10, .inl (fun _ => 0))), ((u8 2), .inl (G 0, 10, .inl (fun _ => 0))), ((u8 3), .inl (G 0, 10, .inl (fun _ => 0))), ((u8 4), .inl (G 0, 10, .inl (fun _ => 0))), ((u8 5), .inl (G 0, 10, .inl (fun _ => 0))), ((u8 6), .inl (G 0, 10, .inl (fun _ => 0))), ((u8 7), .inl (G 0, 10, .inl (fun _ => 0))), ((u8 8), .inl (G 0, 10, .inl (fun _ => 0))), ((u8 9), .inl (G 0, 10, .inl (fun _ => 0))), ((u8 10), .inl (G 0, 10, .inl (fun _ => 0))), ((u4 11), .inr (6, [.ref (u4 59), .ref (u4 60), .ref (u4 61), .int 0, .int 0, .ref (u4 62), .ref (u4 63)])), ((u4 59), .inl (G 0, 4, .inl (upd (upd (upd (upd (fun _ => 0) 0 (-1)) 1 (-1)) 2 (-1)) 3 (-1)))), ((u4 60), .inl (G 0, 4, .inl (fun _ => 0))), ((u4 61), .inl (G 4, 4, .inr (.inr (.inr (.inr (fun ir => if ir < 4 then some (u9 ir) else none)))))), ((u4 62), .inl (G 0, 20, .inl (fun _ => 0))), ((u4 63), .inl (G 0, 20, .inl (fun _ => 0))), ((u9 0), .inl (G 0, 40, .inl (fun _ => 0))), ((u9 1), .inl (G 0, 40, .inl (fun _ => 0))), ((u9 2), .inl (G 0, 40, .inl (fun _ => 0))), ((u9 3), .inl (G 0, 40, .inl (fun _ => 0)))]) hP hD rfl
  refine W.widen (k := 112) (n := 2673) (by omega) (by omega) ?_
  refine lv_astore_n (lv' := [(1, .ref q1), (0, .ref b)]) hx hb dL_law_7 rfl hl (by decide) rfl (fun ls hl => ?_)
  refine va_new (ci := 11) (fs := [.null, .int 0, .int 0, .null, .int 0, .int 0, .int 0, .int 0, .int 0, .int 0, .null, .int 0, .int 0, .int 0, .int 0, .int 0, .int 0, .int 0, .int 0, .null, .null, .null, .null, .null, .null, .int 0, .null, .int 0, .null, .null, .null, .null, .null, .null, .int 0]) (C := RX11) (T := TX11) (N := 35) hx hb hg inG11 tyX11 tyX11_ok hown (hg _ wt_872) (hg _ wt_873) (hg _ wt_12) hK.1 hP hD hS hA rfl nwX11 (Nat.le_of_ble_eq_true rfl) (Nat.le_of_ble_eq_true rfl) dL_law_8 (fun q10 H hP hD hS => ?_)
  obtain ⟨hP, hD⟩ := va_rls (ws' := [(q1, .inr (10, [.ref (u4 0), .ref (u4 1), .ref (u4 2), .ref (u4 3), .ref (u4 4), .ref (u4 5), .ref (u4 6), .ref (u4 7), .ref (u4 8), .ref (u4 9), .ref (u4 10), .ref (u4 11), .int 0, .int 0])), ((u4 0), .inr (5, [.ref (u4 12), .ref (u4 13), .int 0, .int 0, .int 0, .int 0, .int 0, .int 0, .int 0, .int 0, .int 0, .int 0])), ((u4 12), .inr (7, [.int 0, .ref (u4 14)])), ((u4 14), .inl (G 0, 320, .inl (fun _ => 0))), ((u4 13), .inr (9, [.int 0, .int 0, .int 5, .ref (u4 15), .ref (u4 16), .ref (u4 17), .ref (u4 18), .ref (u4 19), .ref (u4 20)])), ((u4 15), .inl (G 0, 10, .inl (fun _ => 0))), ((u4 16), .inl (G 0, 10, .inl (fun _ => 0))), ((u4 17), .inl (G 0, 10, .inl (fun _ => 0))), ((u4 18), .inl (G 0, 6, .inl (fun _ => 0))), ((u4 19), .inl (G 0, 6, .inl (fun _ => 0))), ((u4 20), .inl (G 0, 6, .inl (fun _ => 0))), ((u4 1), .inr (9, [.int 0, .int 0, .int 5, .ref (u4 21), .ref (u4 22), .ref (u4 23), .ref (u4 24), .ref (u4 25), .ref (u4 26)])), ((u4 21), .inl (G 0, 10, .inl (fun _ => 0))), ((u4 22), .inl (G 0, 10, .inl (fun _ => 0))), ((u4 23), .inl (G 0, 10, .inl (fun _ => 0))), ((u4 24), .inl (G 0, 6, .inl (fun _ => 0))), ((u4 25), .inl (G 0, 6, .inl (fun _ => 0))), ((u4 26), .inl (G 0, 6, .inl (fun _ => 0))), ((u4 2), .inr (9, [.int 0, .int 0, .int 5, .ref (u4 27), .ref (u4 28), .ref (u4 29), .ref (u4 30), .ref (u4 31), .ref (u4 32)])), ((u4 27), .inl (G 0, 10, .inl (fun _ => 0))), ((u4 28), .inl (G 0, 10, .inl (fun _ => 0))), ((u4 29), .inl (G 0, 10, .inl (fun _ => 0))), ((u4 30), .inl (G 0, 6, .inl (fun _ => 0))), ((u4 31), .inl (G 0, 6, .inl (fun _ => 0))), ((u4 32), .inl (G 0, 6, .inl (fun _ => 0))), ((u4 3), .inl (G 3, 2, .inr (.inr (.inr (.inr (va_up (va_up (fun _ => none) 0 (some (u4 33))) 1 (some (u4 34)))))))), ((u4 33), .inr (9, [.int 0, .int 0, .int 5, .ref (u4 35), .ref (u4 36), .ref (u4 37), .ref (u4 38), .ref (u4 39), .ref (u4 40)])), ((u4 35), .inl (G 0, 10, .inl (fun _ => 0))), ((u4 36), .inl (G 0, 10, .inl (fun _ => 0))), ((u4 37), .inl (G 0, 10, .inl (fun _ => 0))), ((u4 38), .inl (G 0, 6, .inl (fun _ => 0))), ((u4 39), .inl (G 0, 6, .inl (fun _ => 0))), ((u4 40), .inl (G 0, 6, .inl (fun _ => 0))), ((u4 34), .inr (9, [.int 0, .int 0, .int 5, .ref (u4 41), .ref (u4 42), .ref (u4 43), .ref (u4 44), .ref (u4 45), .ref (u4 46)])), ((u4 41), .inl (G 0, 10, .inl (fun _ => 0))), ((u4 42), .inl (G 0, 10, .inl (fun _ => 0))), ((u4 43), .inl (G 0, 10, .inl (fun _ => 0))), ((u4 44), .inl (G 0, 6, .inl (fun _ => 0))), ((u4 45), .inl (G 0, 6, .inl (fun _ => 0))), ((u4 46), .inl (G 0, 6, .inl (fun _ => 0))), ((u4 4), .inl (G 2, 2, .inl (fun _ => 0))), ((u4 5), .inr (4, [.long 1, .ref (u4 47), .ref (u4 48)])), ((u4 47), .inl (G 1, 10, .inr (.inl (fun _ => 0)))), ((u4 48), .inl (G 1, 10, .inr (.inl (fun _ => 0)))), ((u4 6), .inr (0, [.long 1, .ref (u4 49), .ref (u4 50)])), ((u4 49), .inl (G 5, 11, .inr (.inr (.inr (.inr (fun ir => if ir < 11 then some (u5 ir) else none)))))), ((u4 50), .inl (G 4, 10, .inr (.inr (.inr (.inr (fun ir => if ir < 10 then some (u6 ir) else none)))))), ((u5 0), .inl (G 1, 70, .inr (.inl (fun _ => 0)))), ((u5 1), .inl (G 1, 70, .inr (.inl (fun _ => 0)))), ((u5 2), .inl (G 1, 70, .inr (.inl (fun _ => 0)))), ((u5 3), .inl (G 1, 70, .inr (.inl (fun _ => 0)))), ((u5 4), .inl (G 1, 70, .inr (.inl (fun _ => 0)))), ((u5 5), .inl (G 1, 70, .inr (.inl (fun _ => 0)))), ((u5 6), .inl (G 1, 70, .inr (.inl (fun _ => 0)))), ((u5 7), .inl (G 1, 70, .inr (.inl (fun _ => 0)))), ((u5 8), .inl (G 1, 70, .inr (.inl (fun _ => 0)))), ((u5 9), .inl (G 1, 70, .inr (.inl (fun _ => 0)))), ((u5 10), .inl (G 1, 70, .inr (.inl (fun _ => 0)))), ((u6 0), .inl (G 0, 70, .inl (fun _ => 0))), ((u6 1), .inl (G 0, 70, .inl (fun _ => 0))), ((u6 2), .inl (G 0, 70, .inl (fun _ => 0))), ((u6 3), .inl (G 0, 70, .inl (fun _ => 0))), ((u6 4), .inl (G 0, 70, .inl (fun _ => 0))), ((u6 5), .inl (G 0, 70, .inl (fun _ => 0))), ((u6 6), .inl (G 0, 70, .inl (fun _ => 0))), ((u6 7), .inl (G 0, 70, .inl (fun _ => 0))), ((u6 8), .inl (G 0, 70, .inl (fun _ => 0))), ((u6 9), .inl (G 0, 70, .inl (fun _ => 0))), ((u4 7), .inr (1, [.int 0, .int 0, .int 0])), ((u4 8), .inr (2, [.int 0, .ref (u4 51), .ref (u4 52), .ref (u4 53), .ref (u4 54)])), ((u4 51), .inl (G 0, 8, .inl (fun _ => 0))), ((u4 52), .inl (G 0, 8, .inl (fun _ => 0))), ((u4 53), .inl (G 0, 8, .inl (fun _ => 0))), ((u4 54), .inl (G 0, 8, .inl (fun _ => 0))), ((u4 9), .inr (3, [.int 0, .ref (u4 55), .ref (u4 56)])), ((u4 55), .inl (G 0, 6, .inl (fun _ => 0))), ((u4 56), .inl (G 0, 6, .inl (fun _ => 0))), ((u4 10), .inr (8, [.int 0, .ref (u4 57), .ref (u4 58)])), ((u4 57), .inl (G 4, 11, .inr (.inr (.inr (.inr (fun ir => if ir < 11 then some (u7 ir) else none)))))), ((u4 58), .inl (G 4, 11, .inr (.inr (.inr (.inr (fun ir => if ir < 11 then some (u8 ir) else none)))))), ((u7 0), .inl (G 0, 10, .inl (fun _ => 0))), ((u7 1), .inl (G 0, 10, .inl (fun _ => 0))), ((u7 2), .inl (G 0, 10, .inl (fun _ => 0))), ((u7 3), .inl (G 0, 10, .inl (fun _ => 0))), ((u7 4), .inl (G 0, 10, .inl (fun _ => 0))), ((u7 5), .inl (G 0, 10, .inl (fun _ => 0))), ((u7 6), .inl (G 0, 10, .inl (fun _ => 0))), ((u7 7), .inl (G 0, 10, .inl (fun _ => 0))), ((u7 8), .inl (G 0, 10, .inl (fun _ => 0))), ((u7 9), .inl (G 0, 10, .inl (fun _ => 0))), ((u7 10), .inl (G 0, 10, .inl (fun _ => 0))), ((u8 0), .inl (G 0, 10, .inl (fun _ => 0))), ((u8 1), .inl (G 0, 10, .inl (fun _ => 0))), ((u8 2), .inl (G 0, 10, .inl (fun _ => 0))), ((u8 3), .inl (G 0, 10, .inl (fun _ => 0))), ((u8 4), .inl (G 0, 10, .inl (fun _ => 0))), ((u8 5), .inl (G 0, 10, .inl (fun _ => 0))), ((u8 6), .inl (G 0, 10, .inl (fun _ => 0))), ((u8 7), .inl (G 0, 10, .inl (fun _ => 0))), ((u8 8), .inl (G 0, 10, .inl (fun _ => 0))), ((u8 9), .inl (G 0, 10, .inl (fun _ => 0))), ((u8 10), .inl (G 0, 10, .inl (fun _ => 0))), ((u4 11), .inr (6, [.ref (u4 59), .ref (u4 60), .ref (u4 61), .int 0, .int 0, .ref (u4 62), .ref (u4 63)])), ((u4 59), .inl (G 0, 4, .inl (upd (upd (upd (upd (fun _ => 0) 0 (-1)) 1 (-1)) 2 (-1)) 3 (-1)))), ((u4 60), .inl (G 0, 4, .inl (fun _ => 0))), ((u4 61), .inl (G 4, 4, .inr (.inr (.inr (.inr (fun ir => if ir < 4 then some (u9 ir) else none)))))), ((u4 62), .inl (G 0, 20, .inl (fun _ => 0))), ((u4 63), .inl (G 0, 20, .inl (fun _ => 0))), ((u9 0), .inl (G 0, 40, .inl (fun _ => 0))), ((u9 1), .inl (G 0, 40, .inl (fun _ => 0))), ((u9 2), .inl (G 0, 40, .inl (fun _ => 0))), ((u9 3), .inl (G 0, 40, .inl (fun _ => 0))), (q10, .inr (11, [.null, .int 0, .int 0, .null, .int 0, .int 0, .int 0, .int 0, .int 0, .int 0, .null, .int 0, .int 0, .int 0, .int 0, .int 0, .int 0, .int 0, .int 0, .null, .null, .null, .null, .null, .null, .int 0, .null, .int 0, .null, .null, .null, .null, .null, .null, .int 0]))]) hP hD rfl
  refine W.widen (k := 113) (n := 2708) (by omega) (by omega) ?_
  refine lv_dup hx hb dL_law_11 rfl ?_
  have hPc := hP.sub (ws' := [(q10, .inr (11, [.null, .int 0, .int 0, .null, .int 0, .int 0, .int 0, .int 0, .int 0, .int 0, .null, .int 0, .int 0, .int 0, .int 0, .int 0, .int 0, .int 0, .int 0, .null, .null, .null, .null, .null, .null, .int 0, .null, .int 0, .null, .null, .null, .null, .null, .null, .int 0]))]) [112] rfl
  have hDc := hD.sub (ws' := [(q10, .inr (11, [.null, .int 0, .int 0, .null, .int 0, .int 0, .int 0, .int 0, .int 0, .int 0, .null, .int 0, .int 0, .int 0, .int 0, .int 0, .int 0, .int 0, .int 0, .null, .null, .null, .null, .null, .null, .int 0, .null, .int 0, .null, .null, .null, .null, .null, .null, .int 0]))]) [112] (by decide) rfl
  have hFc := va_free (wc := [(q10, .inr (11, [.null, .int 0, .int 0, .null, .int 0, .int 0, .int 0, .int 0, .int 0, .int 0, .null, .int 0, .int 0, .int 0, .int 0, .int 0, .int 0, .int 0, .int 0, .null, .null, .null, .null, .null, .null, .int 0, .null, .int 0, .null, .null, .null, .null, .null, .null, .int 0]))]) hD hS hA [112] rfl
  refine va_callv (va_runI (As := []) (rest := [.ref q10]) ⟨hx, hb, hml, hown, hg⟩ (c_X11_init l dC dI G _ q10 ) (kwI hg mfX11_init wt_874 ⟨Nat.le_of_ble_eq_true rfl, Nat.le_of_ble_eq_true rfl⟩) (preSW hK hPc hDc) rfl rfl hl.1 rfl (lv_room (Nat.le_of_ble_eq_true rfl)) dL_law_12 ⟨Nat.le_of_ble_eq_true rfl, Nat.le_of_ble_eq_true rfl⟩) hS (fun q _ h => hFc q h) hFc (fun ur11 t H1 locs ht hvm w12 hB hz1 hk1 hS => ?_)
  obtain ⟨u13, u14⟩ := ur11
  obtain ⟨hP1, hD1⟩ := hB
  rw [ht] at hP1
  obtain ⟨hP, hD⟩ := va_join (wr := [(q1, .inr (10, [.ref (u4 0), .ref (u4 1), .ref (u4 2), .ref (u4 3), .ref (u4 4), .ref (u4 5), .ref (u4 6), .ref (u4 7), .ref (u4 8), .ref (u4 9), .ref (u4 10), .ref (u4 11), .int 0, .int 0])), ((u4 0), .inr (5, [.ref (u4 12), .ref (u4 13), .int 0, .int 0, .int 0, .int 0, .int 0, .int 0, .int 0, .int 0, .int 0, .int 0])), ((u4 12), .inr (7, [.int 0, .ref (u4 14)])), ((u4 14), .inl (G 0, 320, .inl (fun _ => 0))), ((u4 13), .inr (9, [.int 0, .int 0, .int 5, .ref (u4 15), .ref (u4 16), .ref (u4 17), .ref (u4 18), .ref (u4 19), .ref (u4 20)])), ((u4 15), .inl (G 0, 10, .inl (fun _ => 0))), ((u4 16), .inl (G 0, 10, .inl (fun _ => 0))), ((u4 17), .inl (G 0, 10, .inl (fun _ => 0))), ((u4 18), .inl (G 0, 6, .inl (fun _ => 0))), ((u4 19), .inl (G 0, 6, .inl (fun _ => 0))), ((u4 20), .inl (G 0, 6, .inl (fun _ => 0))), ((u4 1), .inr (9, [.int 0, .int 0, .int 5, .ref (u4 21), .ref (u4 22), .ref (u4 23), .ref (u4 24), .ref (u4 25), .ref (u4 26)])), ((u4 21), .inl (G 0, 10, .inl (fun _ => 0))), ((u4 22), .inl (G 0, 10, .inl (fun _ => 0))), ((u4 23), .inl (G 0, 10, .inl (fun _ => 0))), ((u4 24), .inl (G 0, 6, .inl (fun _ => 0))), ((u4 25), .inl (G 0, 6, .inl (fun _ => 0))), ((u4 26), .inl (G 0, 6, .inl (fun _ => 0))), ((u4 2), .inr (9, [.int 0, .int 0, .int 5, .ref (u4 27), .ref (u4 28), .ref (u4 29), .ref (u4 30), .ref (u4 31), .ref (u4 32)])), ((u4 27), .inl (G 0, 10, .inl (fun _ => 0))), ((u4 28), .inl (G 0, 10, .inl (fun _ => 0))), ((u4 29), .inl (G 0, 10, .inl (fun _ => 0))), ((u4 30), .inl (G 0, 6, .inl (fun _ => 0))), ((u4 31), .inl (G 0, 6, .inl (fun _ => 0))), ((u4 32), .inl (G 0, 6, .inl (fun _ => 0))), ((u4 3), .inl (G 3, 2, .inr (.inr (.inr (.inr (va_up (va_up (fun _ => none) 0 (some (u4 33))) 1 (some (u4 34)))))))), ((u4 33), .inr (9, [.int 0, .int 0, .int 5, .ref (u4 35), .ref (u4 36), .ref (u4 37), .ref (u4 38), .ref (u4 39), .ref (u4 40)])), ((u4 35), .inl (G 0, 10, .inl (fun _ => 0))), ((u4 36), .inl (G 0, 10, .inl (fun _ => 0))), ((u4 37), .inl (G 0, 10, .inl (fun _ => 0))), ((u4 38), .inl (G 0, 6, .inl (fun _ => 0))), ((u4 39), .inl (G 0, 6, .inl (fun _ => 0))), ((u4 40), .inl (G 0, 6, .inl (fun _ => 0))), ((u4 34), .inr (9, [.int 0, .int 0, .int 5, .ref (u4 41), .ref (u4 42), .ref (u4 43), .ref (u4 44), .ref (u4 45), .ref (u4 46)])), ((u4 41), .inl (G 0, 10, .inl (fun _ => 0))), ((u4 42), .inl (G 0, 10, .inl (fun _ => 0))), ((u4 43), .inl (G 0, 10, .inl (fun _ => 0))), ((u4 44), .inl (G 0, 6, .inl (fun _ => 0))), ((u4 45), .inl (G 0, 6, .inl (fun _ => 0))), ((u4 46), .inl (G 0, 6, .inl (fun _ => 0))), ((u4 4), .inl (G 2, 2, .inl (fun _ => 0))), ((u4 5), .inr (4, [.long 1, .ref (u4 47), .ref (u4 48)])), ((u4 47), .inl (G 1, 10, .inr (.inl (fun _ => 0)))), ((u4 48), .inl (G 1, 10, .inr (.inl (fun _ => 0)))), ((u4 6), .inr (0, [.long 1, .ref (u4 49), .ref (u4 50)])), ((u4 49), .inl (G 5, 11, .inr (.inr (.inr (.inr (fun ir => if ir < 11 then some (u5 ir) else none)))))), ((u4 50), .inl (G 4, 10, .inr (.inr (.inr (.inr (fun ir => if ir < 10 then some (u6 ir) else none)))))), ((u5 0), .inl (G 1, 70, .inr (.inl (fun _ => 0)))), ((u5 1), .inl (G 1, 70, .inr (.inl (fun _ => 0)))), ((u5 2), .inl (G 1, 70, .inr (.inl (fun _ => 0)))), ((u5 3), .inl (G 1, 70, .inr (.inl (fun _ => 0)))), ((u5 4), .inl (G 1, 70, .inr (.inl (fun _ => 0)))), ((u5 5), .inl (G 1, 70, .inr (.inl (fun _ => 0)))), ((u5 6), .inl (G 1, 70, .inr (.inl (fun _ => 0)))), ((u5 7), .inl (G 1, 70, .inr (.inl (fun _ => 0)))), ((u5 8), .inl (G 1, 70, .inr (.inl (fun _ => 0)))), ((u5 9), .inl (G 1, 70, .inr (.inl (fun _ => 0)))), ((u5 10), .inl (G 1, 70, .inr (.inl (fun _ => 0)))), ((u6 0), .inl (G 0, 70, .inl (fun _ => 0))), ((u6 1), .inl (G 0, 70, .inl (fun _ => 0))), ((u6 2), .inl (G 0, 70, .inl (fun _ => 0))), ((u6 3), .inl (G 0, 70, .inl (fun _ => 0))), ((u6 4), .inl (G 0, 70, .inl (fun _ => 0))), ((u6 5), .inl (G 0, 70, .inl (fun _ => 0))), ((u6 6), .inl (G 0, 70, .inl (fun _ => 0))), ((u6 7), .inl (G 0, 70, .inl (fun _ => 0))), ((u6 8), .inl (G 0, 70, .inl (fun _ => 0))), ((u6 9), .inl (G 0, 70, .inl (fun _ => 0))), ((u4 7), .inr (1, [.int 0, .int 0, .int 0])), ((u4 8), .inr (2, [.int 0, .ref (u4 51), .ref (u4 52), .ref (u4 53), .ref (u4 54)])), ((u4 51), .inl (G 0, 8, .inl (fun _ => 0))), ((u4 52), .inl (G 0, 8, .inl (fun _ => 0))), ((u4 53), .inl (G 0, 8, .inl (fun _ => 0))), ((u4 54), .inl (G 0, 8, .inl (fun _ => 0))), ((u4 9), .inr (3, [.int 0, .ref (u4 55), .ref (u4 56)])), ((u4 55), .inl (G 0, 6, .inl (fun _ => 0))), ((u4 56), .inl (G 0, 6, .inl (fun _ => 0))), ((u4 10), .inr (8, [.int 0, .ref (u4 57), .ref (u4 58)])), ((u4 57), .inl (G 4, 11, .inr (.inr (.inr (.inr (fun ir => if ir < 11 then some (u7 ir) else none)))))), ((u4 58), .inl (G 4, 11, .inr (.inr (.inr (.inr (fun ir => if ir < 11 then some (u8 ir) else none)))))), ((u7 0), .inl (G 0, 10, .inl (fun _ => 0))), ((u7 1), .inl (G 0, 10, .inl (fun _ => 0))), ((u7 2), .inl (G 0, 10, .inl (fun _ => 0))), ((u7 3), .inl (G 0, 10, .inl (fun _ => 0))), ((u7 4), .inl (G 0, 10, .inl (fun _ => 0))), ((u7 5), .inl (G 0, 10, .inl (fun _ => 0))), ((u7 6), .inl (G 0, 10, .inl (fun _ => 0))), ((u7 7), .inl (G 0, 10, .inl (fun _ => 0))), ((u7 8), .inl (G 0, 10, .inl (fun _ => 0))), ((u7 9), .inl (G 0, 10, .inl (fun _ => 0))), ((u7 10), .inl (G 0, 10, .inl (fun _ => 0))), ((u8 0), .inl (G 0, 10, .inl (fun _ => 0))), ((u8 1), .inl (G 0, 10, .inl (fun _ => 0))), ((u8 2), .inl (G 0, 10, .inl (fun _ => 0))), ((u8 3), .inl (G 0, 10, .inl (fun _ => 0))), ((u8 4), .inl (G 0, 10, .inl (fun _ => 0))), ((u8 5), .inl (G 0, 10, .inl (fun _ => 0))), ((u8 6), .inl (G 0, 10, .inl (fun _ => 0))), ((u8 7), .inl (G 0, 10, .inl (fun _ => 0))), ((u8 8), .inl (G 0, 10, .inl (fun _ => 0))), ((u8 9), .inl (G 0, 10, .inl (fun _ => 0))), ((u8 10), .inl (G 0, 10, .inl (fun _ => 0))), ((u4 11), .inr (6, [.ref (u4 59), .ref (u4 60), .ref (u4 61), .int 0, .int 0, .ref (u4 62), .ref (u4 63)])), ((u4 59), .inl (G 0, 4, .inl (upd (upd (upd (upd (fun _ => 0) 0 (-1)) 1 (-1)) 2 (-1)) 3 (-1)))), ((u4 60), .inl (G 0, 4, .inl (fun _ => 0))), ((u4 61), .inl (G 4, 4, .inr (.inr (.inr (.inr (fun ir => if ir < 4 then some (u9 ir) else none)))))), ((u4 62), .inl (G 0, 20, .inl (fun _ => 0))), ((u4 63), .inl (G 0, 20, .inl (fun _ => 0))), ((u9 0), .inl (G 0, 40, .inl (fun _ => 0))), ((u9 1), .inl (G 0, 40, .inl (fun _ => 0))), ((u9 2), .inl (G 0, 40, .inl (fun _ => 0))), ((u9 3), .inl (G 0, 40, .inl (fun _ => 0)))]) (w1 := [(q10, .inr (11, [.ref (u13 0), .int 0, .int 0, .ref (u13 1), .int 0, .int 0, .int 0, .int 0, .int 0, .int 0, .ref (u13 2), .int 0, .int 0, .int 0, .int 0, .int 0, .int 0, .int 0, .int 0, .ref (u13 3), .ref (u13 4), .ref (u13 5), .ref (u13 6), .ref (u13 7), .ref (u13 8), .int 0, .ref (u13 9), .int 0, .ref (u13 10), .ref (u13 11), .ref (u13 12), .ref (u13 13), .ref (u13 14), .ref (u13 15), .int 0])), ((u13 0), .inl (G 0, 196, .inl (fun _ => 0))), ((u13 1), .inl (G 0, 49, .inl (fun _ => 0))), ((u13 2), .inl (G 0, 320, .inl (fun _ => 0))), ((u13 3), .inl (G 0, 11, .inl (upd (upd (upd (upd (upd (upd (upd (upd (upd (upd (upd (fun _ => 0) 0 0) 1 5) 2 12) 3 18) 4 23) 5 28) 6 34) 7 42) 8 46) 9 50) 10 54))), ((u13 4), .inl (G 0, 54, .inl u14)), ((u13 5), .inl (G 1, 10, .inr (.inl (fun _ => 0)))), ((u13 6), .inl (G 1, 10, .inr (.inl (fun _ => 0)))), ((u13 7), .inl (G 1, 770, .inr (.inl (fun _ => 0)))), ((u13 8), .inl (G 0, 32, .inl (fun _ => 0))), ((u13 9), .inl (G 0, 12, .inl (fun _ => 0))), ((u13 10), .inl (G 0, 110, .inl (fun _ => 0))), ((u13 11), .inl (G 0, 110, .inl (fun _ => 0))), ((u13 12), .inl (G 2, 2, .inl (fun _ => 0))), ((u13 13), .inl (G 0, 4, .inl (upd (upd (upd (upd (fun _ => 0) 0 (-4)) 1 (-4)) 2 (-4)) 3 (-4)))), ((u13 14), .inl (G 0, 4, .inl (fun _ => 0))), ((u13 15), .inl (G 0, 160, .inl (fun _ => 0)))]) hP hD [112] [0, 1, 2, 3, 4, 5, 6, 7, 8, 9, 10, 11, 12, 13, 14, 15, 16, 17, 18, 19, 20, 21, 22, 23, 24, 25, 26, 27, 28, 29, 30, 31, 32, 33, 34, 35, 36, 37, 38, 39, 40, 41, 42, 43, 44, 45, 46, 47, 48, 49, 50, 51, 52, 53, 54, 55, 56, 57, 58, 59, 60, 61, 62, 63, 64, 65, 66, 67, 68, 69, 70, 71, 72, 73, 74, 75, 76, 77, 78, 79, 80, 81, 82, 83, 84, 85, 86, 87, 88, 89, 90, 91, 92, 93, 94, 95, 96, 97, 98, 99, 100, 101, 102, 103, 104, 105, 106, 107, 108, 109, 110, 111] rfl rfl (by decide +kernel) (by decide +kernel) hk1 hFc hP1 hD1
  have w12 : ∀ q : Nat, q < 54 → u14 q = letL.getD q 0 := w12
  generalize H1 = H at hP hS ⊢
  obtain ⟨hP, hD⟩ := va_rls (ws' := [(q1, .inr (10, [.ref (u4 0), .ref (u4 1), .ref (u4 2), .ref (u4 3), .ref (u4 4), .ref (u4 5), .ref (u4 6), .ref (u4 7), .ref (u4 8), .ref (u4 9), .ref (u4 10), .ref (u4 11), .int 0, .int 0])), ((u4 0), .inr (5, [.ref (u4 12), .ref (u4 13), .int 0, .int 0, .int 0, .int 0, .int 0, .int 0, .int 0, .int 0, .int 0, .int 0])), ((u4 12), .inr (7, [.int 0, .ref (u4 14)])), ((u4 14), .inl (G 0, 320, .inl (fun _ => 0))), ((u4 13), .inr (9, [.int 0, .int 0, .int 5, .ref (u4 15), .ref (u4 16), .ref (u4 17), .ref (u4 18), .ref (u4 19), .ref (u4 20)])), ((u4 15), .inl (G 0, 10, .inl (fun _ => 0))), ((u4 16), .inl (G 0, 10, .inl (fun _ => 0))), ((u4 17), .inl (G 0, 10, .inl (fun _ => 0))), ((u4 18), .inl (G 0, 6, .inl (fun _ => 0))), ((u4 19), .inl (G 0, 6, .inl (fun _ => 0))), ((u4 20), .inl (G 0, 6, .inl (fun _ => 0))), ((u4 1), .inr (9, [.int 0, .int 0, .int 5, .ref (u4 21), .ref (u4 22), .ref (u4 23), .ref (u4 24), .ref (u4 25), .ref (u4 26)])), ((u4 21), .inl (G 0, 10, .inl (fun _ => 0))), ((u4 22), .inl (G 0, 10, .inl (fun _ => 0))), ((u4 23), .inl (G 0, 10, .inl (fun _ => 0))), ((u4 24), .inl (G 0, 6, .inl (fun _ => 0))), ((u4 25), .inl (G 0, 6, .inl (fun _ => 0))), ((u4 26), .inl (G 0, 6, .inl (fun _ => 0))), ((u4 2), .inr (9, [.int 0, .int 0, .int 5, .ref (u4 27), .ref (u4 28), .ref (u4 29), .ref (u4 30), .ref (u4 31), .ref (u4 32)])), ((u4 27), .inl (G 0, 10, .inl (fun _ => 0))), ((u4 28), .inl (G 0, 10, .inl (fun _ => 0))), ((u4 29), .inl (G 0, 10, .inl (fun _ => 0))), ((u4 30), .inl (G 0, 6, .inl (fun _ => 0))), ((u4 31), .inl (G 0, 6, .inl (fun _ => 0))), ((u4 32), .inl (G 0, 6, .inl (fun _ => 0))), ((u4 3), .inl (G 3, 2, .inr (.inr (.inr (.inr (va_up (va_up (fun _ => none) 0 (some (u4 33))) 1 (some (u4 34)))))))), ((u4 33), .inr (9, [.int 0, .int 0, .int 5, .ref (u4 35), .ref (u4 36), .ref (u4 37), .ref (u4 38), .ref (u4 39), .ref (u4 40)])), ((u4 35), .inl (G 0, 10, .inl (fun _ => 0))), ((u4 36), .inl (G 0, 10, .inl (fun _ => 0))), ((u4 37), .inl (G 0, 10, .inl (fun _ => 0))), ((u4 38), .inl (G 0, 6, .inl (fun _ => 0))), ((u4 39), .inl (G 0, 6, .inl (fun _ => 0))), ((u4 40), .inl (G 0, 6, .inl (fun _ => 0))), ((u4 34), .inr (9, [.int 0, .int 0, .int 5, .ref (u4 41), .ref (u4 42), .ref (u4 43), .ref (u4 44), .ref (u4 45), .ref (u4 46)])), ((u4 41), .inl (G 0, 10, .inl (fun _ => 0))), ((u4 42), .inl (G 0, 10, .inl (fun _ => 0))), ((u4 43), .inl (G 0, 10, .inl (fun _ => 0))), ((u4 44), .inl (G 0, 6, .inl (fun _ => 0))), ((u4 45), .inl (G 0, 6, .inl (fun _ => 0))), ((u4 46), .inl (G 0, 6, .inl (fun _ => 0))), ((u4 4), .inl (G 2, 2, .inl (fun _ => 0))), ((u4 5), .inr (4, [.long 1, .ref (u4 47), .ref (u4 48)])), ((u4 47), .inl (G 1, 10, .inr (.inl (fun _ => 0)))), ((u4 48), .inl (G 1, 10, .inr (.inl (fun _ => 0)))), ((u4 6), .inr (0, [.long 1, .ref (u4 49), .ref (u4 50)])), ((u4 49), .inl (G 5, 11, .inr (.inr (.inr (.inr (fun ir => if ir < 11 then some (u5 ir) else none)))))), ((u4 50), .inl (G 4, 10, .inr (.inr (.inr (.inr (fun ir => if ir < 10 then some (u6 ir) else none)))))), ((u5 0), .inl (G 1, 70, .inr (.inl (fun _ => 0)))), ((u5 1), .inl (G 1, 70, .inr (.inl (fun _ => 0)))), ((u5 2), .inl (G 1, 70, .inr (.inl (fun _ => 0)))), ((u5 3), .inl (G 1, 70, .inr (.inl (fun _ => 0)))), ((u5 4), .inl (G 1, 70, .inr (.inl (fun _ => 0)))), ((u5 5), .inl (G 1, 70, .inr (.inl (fun _ => 0)))), ((u5 6), .inl (G 1, 70, .inr (.inl (fun _ => 0)))), ((u5 7), .inl (G 1, 70, .inr (.inl (fun _ => 0)))), ((u5 8), .inl (G 1, 70, .inr (.inl (fun _ => 0)))), ((u5 9), .inl (G 1, 70, .inr (.inl (fun _ => 0)))), ((u5 10), .inl (G 1, 70, .inr (.inl (fun _ => 0)))), ((u6 0), .inl (G 0, 70, .inl (fun _ => 0))), ((u6 1), .inl (G 0, 70, .inl (fun _ => 0))), ((u6 2), .inl (G 0, 70, .inl (fun _ => 0))), ((u6 3), .inl (G 0, 70, .inl (fun _ => 0))), ((u6 4), .inl (G 0, 70, .inl (fun _ => 0))), ((u6 5), .inl (G 0, 70, .inl (fun _ => 0))), ((u6 6), .inl (G 0, 70, .inl (fun _ => 0))), ((u6 7), .inl (G 0, 70, .inl (fun _ => 0))), ((u6 8), .inl (G 0, 70, .inl (fun _ => 0))), ((u6 9), .inl (G 0, 70, .inl (fun _ => 0))), ((u4 7), .inr (1, [.int 0, .int 0, .int 0])), ((u4 8), .inr (2, [.int 0, .ref (u4 51), .ref (u4 52), .ref (u4 53), .ref (u4 54)])), ((u4 51), .inl (G 0, 8, .inl (fun _ => 0))), ((u4 52), .inl (G 0, 8, .inl (fun _ => 0))), ((u4 53), .inl (G 0, 8, .inl (fun _ => 0))), ((u4 54), .inl (G 0, 8, .inl (fun _ => 0))), ((u4 9), .inr (3, [.int 0, .ref (u4 55), .ref (u4 56)])), ((u4 55), .inl (G 0, 6, .inl (fun _ => 0))), ((u4 56), .inl (G 0, 6, .inl (fun _ => 0))), ((u4 10), .inr (8, [.int 0, .ref (u4 57), .ref (u4 58)])), ((u4 57), .inl (G 4, 11, .inr (.inr (.inr (.inr (fun ir => if ir < 11 then some (u7 ir) else none)))))), ((u4 58), .inl (G 4, 11, .inr (.inr (.inr (.inr (fun ir => if ir < 11 then some (u8 ir) else none)))))), ((u7 0), .inl (G 0, 10, .inl (fun _ => 0))), ((u7 1), .inl (G 0, 10, .inl (fun _ => 0))), ((u7 2), .inl (G 0, 10, .inl (fun _ => 0))), ((u7 3), .inl (G 0, 10, .inl (fun _ => 0))), ((u7 4), .inl (G 0, 10, .inl (fun _ => 0))), ((u7 5), .inl (G 0, 10, .inl (fun _ => 0))), ((u7 6), .inl (G 0, 10, .inl (fun _ => 0))), ((u7 7), .inl (G 0, 10, .inl (fun _ => 0))), ((u7 8), .inl (G 0, 10, .inl (fun _ => 0))), ((u7 9), .inl (G 0, 10, .inl (fun _ => 0))), ((u7 10), .inl (G 0, 10, .inl (fun _ => 0))), ((u8 0), .inl (G 0, 10, .inl (fun _ => 0))), ((u8 1), .inl (G 0, 10, .inl (fun _ => 0))), ((u8 2), .inl (G 0, 10, .inl (fun _ => 0))), ((u8 3), .inl (G 0, 10, .inl (fun _ => 0))), ((u8 4), .inl (G 0, 10, .inl (fun _ => 0))), ((u8 5), .inl (G 0, 10, .inl (fun _ => 0))), ((u8 6), .inl (G 0, 10, .inl (fun _ => 0))), ((u8 7), .inl (G 0, 10, .inl (fun _ => 0))), ((u8 8), .inl (G 0, 10, .inl (fun _ => 0))), ((u8 9), .inl (G 0, 10, .inl (fun _ => 0))), ((u8 10), .inl (G 0, 10, .inl (fun _ => 0))), ((u4 11), .inr (6, [.ref (u4 59), .ref (u4 60), .ref (u4 61), .int 0, .int 0, .ref (u4 62), .ref (u4 63)])), ((u4 59), .inl (G 0, 4, .inl (upd (upd (upd (upd (fun _ => 0) 0 (-1)) 1 (-1)) 2 (-1)) 3 (-1)))), ((u4 60), .inl (G 0, 4, .inl (fun _ => 0))), ((u4 61), .inl (G 4, 4, .inr (.inr (.inr (.inr (fun ir => if ir < 4 then some (u9 ir) else none)))))), ((u4 62), .inl (G 0, 20, .inl (fun _ => 0))), ((u4 63), .inl (G 0, 20, .inl (fun _ => 0))), ((u9 0), .inl (G 0, 40, .inl (fun _ => 0))), ((u9 1), .inl (G 0, 40, .inl (fun _ => 0))), ((u9 2), .inl (G 0, 40, .inl (fun _ => 0))), ((u9 3), .inl (G 0, 40, .inl (fun _ => 0))), (q10, .inr (11, [.ref (u13 0), .int 0, .int 0, .ref (u13 1), .int 0, .int 0, .int 0, .int 0, .int 0, .int 0, .ref (u13 2), .int 0, .int 0, .int 0, .int 0, .int 0, .int 0, .int 0, .int 0, .ref (u13 3), .ref (u13 4), .ref (u13 5), .ref (u13 6), .ref (u13 7), .ref (u13 8), .int 0, .ref (u13 9), .int 0, .ref (u13 10), .ref (u13 11), .ref (u13 12), .ref (u13 13), .ref (u13 14), .ref (u13 15), .int 0])), ((u13 0), .inl (G 0, 196, .inl (fun _ => 0))), ((u13 1), .inl (G 0, 49, .inl (fun _ => 0))), ((u13 2), .inl (G 0, 320, .inl (fun _ => 0))), ((u13 3), .inl (G 0, 11, .inl (upd (upd (upd (upd (upd (upd (upd (upd (upd (upd (upd (fun _ => 0) 0 0) 1 5) 2 12) 3 18) 4 23) 5 28) 6 34) 7 42) 8 46) 9 50) 10 54))), ((u13 4), .inl (G 0, 54, .inl u14)), ((u13 5), .inl (G 1, 10, .inr (.inl (fun _ => 0)))), ((u13 6), .inl (G 1, 10, .inr (.inl (fun _ => 0)))), ((u13 7), .inl (G 1, 770, .inr (.inl (fun _ => 0)))), ((u13 8), .inl (G 0, 32, .inl (fun _ => 0))), ((u13 9), .inl (G 0, 12, .inl (fun _ => 0))), ((u13 10), .inl (G 0, 110, .inl (fun _ => 0))), ((u13 11), .inl (G 0, 110, .inl (fun _ => 0))), ((u13 12), .inl (G 2, 2, .inl (fun _ => 0))), ((u13 13), .inl (G 0, 4, .inl (upd (upd (upd (upd (fun _ => 0) 0 (-4)) 1 (-4)) 2 (-4)) 3 (-4)))), ((u13 14), .inl (G 0, 4, .inl (fun _ => 0))), ((u13 15), .inl (G 0, 160, .inl (fun _ => 0)))]) hP hD rfl
  refine W.widen (k := 129) (n := 4562) (by omega) (by omega) ?_
  refine lv_astore_n (lv' := [(2, .ref q10), (1, .ref q1), (0, .ref b)]) hx hb dL_law_15 rfl hl (by decide) rfl (fun ls hl => ?_)
  refine lv_iconst (v := 0) hx hb dL_law_16 (by decide) ?_
  refine lv_istore_n (lv' := [(3, .int 0), (2, .ref q10), (1, .ref q1), (0, .ref b)]) hx hb dL_law_17 rfl hl (by decide) rfl (fun ls hl => ?_)
  obtain ⟨ax, hax⟩ : ∃ ax : Nat → Nat, ax = fun i => ([q1, (u4 0), (u4 12), (u4 14), (u4 13), (u4 15), (u4 16), (u4 17), (u4 18), (u4 19), (u4 20), (u4 1), (u4 21), (u4 22), (u4 23), (u4 24), (u4 25), (u4 26), (u4 2), (u4 27), (u4 28), (u4 29), (u4 30), (u4 31), (u4 32), (u4 3), (u4 33), (u4 35), (u4 36), (u4 37), (u4 38), (u4 39), (u4 40), (u4 34), (u4 41), (u4 42), (u4 43), (u4 44), (u4 45), (u4 46), (u4 4), (u4 5), (u4 47), (u4 48), (u4 6), (u4 49), (u4 50), (u5 0), (u5 1), (u5 2), (u5 3), (u5 4), (u5 5), (u5 6), (u5 7), (u5 8), (u5 9), (u5 10), (u6 0), (u6 1), (u6 2), (u6 3), (u6 4), (u6 5), (u6 6), (u6 7), (u6 8), (u6 9), (u4 7), (u4 8), (u4 51), (u4 52), (u4 53), (u4 54), (u4 9), (u4 55), (u4 56), (u4 10), (u4 57), (u4 58), (u7 0), (u7 1), (u7 2), (u7 3), (u7 4), (u7 5), (u7 6), (u7 7), (u7 8), (u7 9), (u7 10), (u8 0), (u8 1), (u8 2), (u8 3), (u8 4), (u8 5), (u8 6), (u8 7), (u8 8), (u8 9), (u8 10), (u4 11), (u4 59), (u4 60), (u4 61), (u4 62), (u4 63), (u9 0), (u9 1), (u9 2), (u9 3), q10, (u13 0), (u13 1), (u13 2), (u13 3), (u13 4), (u13 5), (u13 6), (u13 7), (u13 8), (u13 9), (u13 10), (u13 11), (u13 12), (u13 13), (u13 14), (u13 15)] : List Nat).getD i 0 := ⟨_, rfl⟩
  have er15 : (fun ir => if ir < 11 then some (u5 ir) else none) = (fun ir => if ir < 11 then some (ax (47 + ir)) else none) := rows_eq (fun i hi => by
    rw [hax]
    rcases (show i = 0 ∨ i = 1 ∨ i = 2 ∨ i = 3 ∨ i = 4 ∨ i = 5 ∨ i = 6 ∨ i = 7 ∨ i = 8 ∨ i = 9 ∨ i = 10 by omega) with h | h | h | h | h | h | h | h | h | h | h <;> subst h <;> rfl)
  rw [er15] at hP hD
  have er16 : (fun ir => if ir < 10 then some (u6 ir) else none) = (fun ir => if ir < 10 then some (ax (58 + ir)) else none) := rows_eq (fun i hi => by
    rw [hax]
    rcases (show i = 0 ∨ i = 1 ∨ i = 2 ∨ i = 3 ∨ i = 4 ∨ i = 5 ∨ i = 6 ∨ i = 7 ∨ i = 8 ∨ i = 9 by omega) with h | h | h | h | h | h | h | h | h | h <;> subst h <;> rfl)
  rw [er16] at hP hD
  have er17 : (fun ir => if ir < 11 then some (u7 ir) else none) = (fun ir => if ir < 11 then some (ax (80 + ir)) else none) := rows_eq (fun i hi => by
    rw [hax]
    rcases (show i = 0 ∨ i = 1 ∨ i = 2 ∨ i = 3 ∨ i = 4 ∨ i = 5 ∨ i = 6 ∨ i = 7 ∨ i = 8 ∨ i = 9 ∨ i = 10 by omega) with h | h | h | h | h | h | h | h | h | h | h <;> subst h <;> rfl)
  rw [er17] at hP hD
  have er18 : (fun ir => if ir < 11 then some (u8 ir) else none) = (fun ir => if ir < 11 then some (ax (91 + ir)) else none) := rows_eq (fun i hi => by
    rw [hax]
    rcases (show i = 0 ∨ i = 1 ∨ i = 2 ∨ i = 3 ∨ i = 4 ∨ i = 5 ∨ i = 6 ∨ i = 7 ∨ i = 8 ∨ i = 9 ∨ i = 10 by omega) with h | h | h | h | h | h | h | h | h | h | h <;> subst h <;> rfl)
  rw [er18] at hP hD
  have er19 : (fun ir => if ir < 4 then some (u9 ir) else none) = (fun ir => if ir < 4 then some (ax (108 + ir)) else none) := rows_eq (fun i hi => by
    rw [hax]
    rcases (show i = 0 ∨ i = 1 ∨ i = 2 ∨ i = 3 by omega) with h | h | h | h <;> subst h <;> rfl)
  rw [er19] at hP hD
  have er20 : (upd (upd (upd (upd (fun _ => 0) 0 (-4)) 1 (-4)) 2 (-4)) 3 (-4)) = lmap (upd (upd (upd (upd (fun _ => 0) 0 (-1)) 1 (-1)) 2 (-1)) 3 (-1)) := lm0
  rw [er20] at hP hD
  have hP9 : va_P (dC, dI) vwCl [(ax 0, .inr (10, [.ref (ax 1), .ref (ax 11), .ref (ax 18), .ref (ax 25), .ref (ax 40), .ref (ax 41), .ref (ax 44), .ref (ax 68), .ref (ax 69), .ref (ax 74), .ref (ax 77), .ref (ax 102), .int 0, .int 0])), (ax 1, .inr (5, [.ref (ax 2), .ref (ax 4), .int 0, .int 0, .int 0, .int 0, .int 0, .int 0, .int 0, .int 0, .int 0, .int 0])), (ax 2, .inr (7, [.int (nI 0), .ref (ax 3)])), (ax 3, .inl (G 0, 320, .inl (fun _ => 0))), (ax 4, .inr (9, [.int (nI 0), .int (nI 0), .int (nI 5), .ref (ax 5), .ref (ax 6), .ref (ax 7), .ref (ax 8), .ref (ax 9), .ref (ax 10)])), (ax 5, .inl (G 0, 10, .inl (fun _ => 0))), (ax 6, .inl (G 0, 10, .inl (fun _ => 0))), (ax 7, .inl (G 0, 10, .inl (fun _ => 0))), (ax 8, .inl (G 0, 6, .inl (fun _ => 0))), (ax 9, .inl (G 0, 6, .inl (fun _ => 0))), (ax 10, .inl (G 0, 6, .inl (fun _ => 0))), (ax 11, .inr (9, [.int (nI 0), .int (nI 0), .int (nI 5), .ref (ax 12), .ref (ax 13), .ref (ax 14), .ref (ax 15), .ref (ax 16), .ref (ax 17)])), (ax 12, .inl (G 0, 10, .inl (fun _ => 0))), (ax 13, .inl (G 0, 10, .inl (fun _ => 0))), (ax 14, .inl (G 0, 10, .inl (fun _ => 0))), (ax 15, .inl (G 0, 6, .inl (fun _ => 0))), (ax 16, .inl (G 0, 6, .inl (fun _ => 0))), (ax 17, .inl (G 0, 6, .inl (fun _ => 0))), (ax 18, .inr (9, [.int (nI 0), .int (nI 0), .int (nI 5), .ref (ax 19), .ref (ax 20), .ref (ax 21), .ref (ax 22), .ref (ax 23), .ref (ax 24)])), (ax 19, .inl (G 0, 10, .inl (fun _ => 0))), (ax 20, .inl (G 0, 10, .inl (fun _ => 0))), (ax 21, .inl (G 0, 10, .inl (fun _ => 0))), (ax 22, .inl (G 0, 6, .inl (fun _ => 0))), (ax 23, .inl (G 0, 6, .inl (fun _ => 0))), (ax 24, .inl (G 0, 6, .inl (fun _ => 0))), (ax 25, .inl (G 3, 2, .inr (.inr (.inr (.inr (va_up (va_up (fun _ => none) 0 (some (ax 26))) 1 (some (ax 33)))))))), (ax 26, .inr (9, [.int (nI 0), .int (nI 0), .int (nI 5), .ref (ax 27), .ref (ax 28), .ref (ax 29), .ref (ax 30), .ref (ax 31), .ref (ax 32)])), (ax 27, .inl (G 0, 10, .inl (fun _ => 0))), (ax 28, .inl (G 0, 10, .inl (fun _ => 0))), (ax 29, .inl (G 0, 10, .inl (fun _ => 0))), (ax 30, .inl (G 0, 6, .inl (fun _ => 0))), (ax 31, .inl (G 0, 6, .inl (fun _ => 0))), (ax 32, .inl (G 0, 6, .inl (fun _ => 0))), (ax 33, .inr (9, [.int (nI 0), .int (nI 0), .int (nI 5), .ref (ax 34), .ref (ax 35), .ref (ax 36), .ref (ax 37), .ref (ax 38), .ref (ax 39)])), (ax 34, .inl (G 0, 10, .inl (fun _ => 0))), (ax 35, .inl (G 0, 10, .inl (fun _ => 0))), (ax 36, .inl (G 0, 10, .inl (fun _ => 0))), (ax 37, .inl (G 0, 6, .inl (fun _ => 0))), (ax 38, .inl (G 0, 6, .inl (fun _ => 0))), (ax 39, .inl (G 0, 6, .inl (fun _ => 0))), (ax 40, .inl (G 2, 2, .inl (fun _ => 0))), (ax 41, .inr (4, [.long 1, .ref (ax 42), .ref (ax 43)])), (ax 42, .inl (G 1, 10, .inr (.inl (fun _ => 0)))), (ax 43, .inl (G 1, 10, .inr (.inl (fun _ => 0)))), (ax 44, .inr (0, [.long 1, .ref (ax 45), .ref (ax 46)])), (ax 45, .inl (G 5, 11, .inr (.inr (.inr (.inr (fun ir => if ir < 11 then some (ax (47 + ir)) else none)))))), (ax 46, .inl (G 4, 10, .inr (.inr (.inr (.inr (fun ir => if ir < 10 then some (ax (58 + ir)) else none)))))), (ax 47, .inl (G 1, 70, .inr (.inl (fun _ => 0)))), (ax 48, .inl (G 1, 70, .inr (.inl (fun _ => 0)))), (ax 49, .inl (G 1, 70, .inr (.inl (fun _ => 0)))), (ax 50, .inl (G 1, 70, .inr (.inl (fun _ => 0)))), (ax 51, .inl (G 1, 70, .inr (.inl (fun _ => 0)))), (ax 52, .inl (G 1, 70, .inr (.inl (fun _ => 0)))), (ax 53, .inl (G 1, 70, .inr (.inl (fun _ => 0)))), (ax 54, .inl (G 1, 70, .inr (.inl (fun _ => 0)))), (ax 55, .inl (G 1, 70, .inr (.inl (fun _ => 0)))), (ax 56, .inl (G 1, 70, .inr (.inl (fun _ => 0)))), (ax 57, .inl (G 1, 70, .inr (.inl (fun _ => 0)))), (ax 58, .inl (G 0, 70, .inl (fun _ => 0))), (ax 59, .inl (G 0, 70, .inl (fun _ => 0))), (ax 60, .inl (G 0, 70, .inl (fun _ => 0))), (ax 61, .inl (G 0, 70, .inl (fun _ => 0))), (ax 62, .inl (G 0, 70, .inl (fun _ => 0))), (ax 63, .inl (G 0, 70, .inl (fun _ => 0))), (ax 64, .inl (G 0, 70, .inl (fun _ => 0))), (ax 65, .inl (G 0, 70, .inl (fun _ => 0))), (ax 66, .inl (G 0, 70, .inl (fun _ => 0))), (ax 67, .inl (G 0, 70, .inl (fun _ => 0))), (ax 68, .inr (1, [.int 0, .int 0, .int 0])), (ax 69, .inr (2, [.int (nI 0), .ref (ax 70), .ref (ax 71), .ref (ax 72), .ref (ax 73)])), (ax 70, .inl (G 0, 8, .inl (fun _ => 0))), (ax 71, .inl (G 0, 8, .inl (fun _ => 0))), (ax 72, .inl (G 0, 8, .inl (fun _ => 0))), (ax 73, .inl (G 0, 8, .inl (fun _ => 0))), (ax 74, .inr (3, [.int (nI 0), .ref (ax 75), .ref (ax 76)])), (ax 75, .inl (G 0, 6, .inl (fun _ => 0))), (ax 76, .inl (G 0, 6, .inl (fun _ => 0))), (ax 77, .inr (8, [.int 0, .ref (ax 78), .ref (ax 79)])), (ax 78, .inl (G 4, 11, .inr (.inr (.inr (.inr (fun ir => if ir < 11 then some (ax (80 + ir)) else none)))))), (ax 79, .inl (G 4, 11, .inr (.inr (.inr (.inr (fun ir => if ir < 11 then some (ax (91 + ir)) else none)))))), (ax 80, .inl (G 0, 10, .inl (fun _ => 0))), (ax 81, .inl (G 0, 10, .inl (fun _ => 0))), (ax 82, .inl (G 0, 10, .inl (fun _ => 0))), (ax 83, .inl (G 0, 10, .inl (fun _ => 0))), (ax 84, .inl (G 0, 10, .inl (fun _ => 0))), (ax 85, .inl (G 0, 10, .inl (fun _ => 0))), (ax 86, .inl (G 0, 10, .inl (fun _ => 0))), (ax 87, .inl (G 0, 10, .inl (fun _ => 0))), (ax 88, .inl (G 0, 10, .inl (fun _ => 0))), (ax 89, .inl (G 0, 10, .inl (fun _ => 0))), (ax 90, .inl (G 0, 10, .inl (fun _ => 0))), (ax 91, .inl (G 0, 10, .inl (fun _ => 0))), (ax 92, .inl (G 0, 10, .inl (fun _ => 0))), (ax 93, .inl (G 0, 10, .inl (fun _ => 0))), (ax 94, .inl (G 0, 10, .inl (fun _ => 0))), (ax 95, .inl (G 0, 10, .inl (fun _ => 0))), (ax 96, .inl (G 0, 10, .inl (fun _ => 0))), (ax 97, .inl (G 0, 10, .inl (fun _ => 0))), (ax 98, .inl (G 0, 10, .inl (fun _ => 0))), (ax 99, .inl (G 0, 10, .inl (fun _ => 0))), (ax 100, .inl (G 0, 10, .inl (fun _ => 0))), (ax 101, .inl (G 0, 10, .inl (fun _ => 0))), (ax 102, .inr (6, [.ref (ax 103), .ref (ax 104), .ref (ax 105), .int 0, .int 0, .ref (ax 106), .ref (ax 107)])), (ax 103, .inl (G 0, 4, .inl (upd (upd (upd (upd (fun _ => 0) 0 (-1)) 1 (-1)) 2 (-1)) 3 (-1)))), (ax 104, .inl (G 0, 4, .inl (fun _ => 0))), (ax 105, .inl (G 4, 4, .inr (.inr (.inr (.inr (fun ir => if ir < 4 then some (ax (108 + ir)) else none)))))), (ax 106, .inl (G 0, 20, .inl (fun _ => 0))), (ax 107, .inl (G 0, 20, .inl (fun _ => 0))), (ax 108, .inl (G 0, 40, .inl (fun _ => 0))), (ax 109, .inl (G 0, 40, .inl (fun _ => 0))), (ax 110, .inl (G 0, 40, .inl (fun _ => 0))), (ax 111, .inl (G 0, 40, .inl (fun _ => 0))), (ax 112, .inr (11, [.ref (ax 113), .int (nI 0), .int (nI 0), .ref (ax 114), .int 0, .int 0, .int 0, .int 0, .int 0, .int 0, .ref (ax 115), .int (nI 0), .int 0, .int 0, .int 0, .int 0, .int (nI 0), .int 0, .int 0, .ref (ax 116), .ref (ax 117), .ref (ax 118), .ref (ax 119), .ref (ax 120), .ref (ax 121), .int (nI 0), .ref (ax 122), .int (nI 0), .ref (ax 123), .ref (ax 124), .ref (ax 125), .ref (ax 126), .ref (ax 127), .ref (ax 128), .int 0])), (ax 113, .inl (G 0, 196, .inl (fun _ => 0))), (ax 114, .inl (G 0, 49, .inl (fun _ => 0))), (ax 115, .inl (G 0, 320, .inl (fun _ => 0))), (ax 116, .inl (G 0, 11, .inl (upd (upd (upd (upd (upd (upd (upd (upd (upd (upd (upd (fun _ => 0) 0 0) 1 5) 2 12) 3 18) 4 23) 5 28) 6 34) 7 42) 8 46) 9 50) 10 54))), (ax 117, .inl (G 0, 54, .inl u14)), (ax 118, .inl (G 1, 10, .inr (.inl (fun _ => 0)))), (ax 119, .inl (G 1, 10, .inr (.inl (fun _ => 0)))), (ax 120, .inl (G 1, 770, .inr (.inl (fun _ => 0)))), (ax 121, .inl (G 0, 32, .inl (fun _ => 0))), (ax 122, .inl (G 0, 12, .inl (fun _ => 0))), (ax 123, .inl (G 0, 110, .inl (fun _ => 0))), (ax 124, .inl (G 0, 110, .inl (fun _ => 0))), (ax 125, .inl (G 2, 2, .inl (fun _ => 0))), (ax 126, .inl (G 0, 4, .inl (lmap (upd (upd (upd (upd (fun _ => 0) 0 (-1)) 1 (-1)) 2 (-1)) 3 (-1))))), (ax 127, .inl (G 0, 4, .inl (fun _ => 0))), (ax 128, .inl (G 0, 160, .inl (fun _ => 0)))] H := by rw [hax]; rw [hax] at hP; exact hP
  have hD9 : va_D A [(ax 0, .inr (10, [.ref (ax 1), .ref (ax 11), .ref (ax 18), .ref (ax 25), .ref (ax 40), .ref (ax 41), .ref (ax 44), .ref (ax 68), .ref (ax 69), .ref (ax 74), .ref (ax 77), .ref (ax 102), .int 0, .int 0])), (ax 1, .inr (5, [.ref (ax 2), .ref (ax 4), .int 0, .int 0, .int 0, .int 0, .int 0, .int 0, .int 0, .int 0, .int 0, .int 0])), (ax 2, .inr (7, [.int (nI 0), .ref (ax 3)])), (ax 3, .inl (G 0, 320, .inl (fun _ => 0))), (ax 4, .inr (9, [.int (nI 0), .int (nI 0), .int (nI 5), .ref (ax 5), .ref (ax 6), .ref (ax 7), .ref (ax 8), .ref (ax 9), .ref (ax 10)])), (ax 5, .inl (G 0, 10, .inl (fun _ => 0))), (ax 6, .inl (G 0, 10, .inl (fun _ => 0))), (ax 7, .inl (G 0, 10, .inl (fun _ => 0))), (ax 8, .inl (G 0, 6, .inl (fun _ => 0))), (ax 9, .inl (G 0, 6, .inl (fun _ => 0))), (ax 10, .inl (G 0, 6, .inl (fun _ => 0))), (ax 11, .inr (9, [.int (nI 0), .int (nI 0), .int (nI 5), .ref (ax 12), .ref (ax 13), .ref (ax 14), .ref (ax 15), .ref (ax 16), .ref (ax 17)])), (ax 12, .inl (G 0, 10, .inl (fun _ => 0))), (ax 13, .inl (G 0, 10, .inl (fun _ => 0))), (ax 14, .inl (G 0, 10, .inl (fun _ => 0))), (ax 15, .inl (G 0, 6, .inl (fun _ => 0))), (ax 16, .inl (G 0, 6, .inl (fun _ => 0))), (ax 17, .inl (G 0, 6, .inl (fun _ => 0))), (ax 18, .inr (9, [.int (nI 0), .int (nI 0), .int (nI 5), .ref (ax 19), .ref (ax 20), .ref (ax 21), .ref (ax 22), .ref (ax 23), .ref (ax 24)])), (ax 19, .inl (G 0, 10, .inl (fun _ => 0))), (ax 20, .inl (G 0, 10, .inl (fun _ => 0))), (ax 21, .inl (G 0, 10, .inl (fun _ => 0))), (ax 22, .inl (G 0, 6, .inl (fun _ => 0))), (ax 23, .inl (G 0, 6, .inl (fun _ => 0))), (ax 24, .inl (G 0, 6, .inl (fun _ => 0))), (ax 25, .inl (G 3, 2, .inr (.inr (.inr (.inr (va_up (va_up (fun _ => none) 0 (some (ax 26))) 1 (some (ax 33)))))))), (ax 26, .inr (9, [.int (nI 0), .int (nI 0), .int (nI 5), .ref (ax 27), .ref (ax 28), .ref (ax 29), .ref (ax 30), .ref (ax 31), .ref (ax 32)])), (ax 27, .inl (G 0, 10, .inl (fun _ => 0))), (ax 28, .inl (G 0, 10, .inl (fun _ => 0))), (ax 29, .inl (G 0, 10, .inl (fun _ => 0))), (ax 30, .inl (G 0, 6, .inl (fun _ => 0))), (ax 31, .inl (G 0, 6, .inl (fun _ => 0))), (ax 32, .inl (G 0, 6, .inl (fun _ => 0))), (ax 33, .inr (9, [.int (nI 0), .int (nI 0), .int (nI 5), .ref (ax 34), .ref (ax 35), .ref (ax 36), .ref (ax 37), .ref (ax 38), .ref (ax 39)])), (ax 34, .inl (G 0, 10, .inl (fun _ => 0))), (ax 35, .inl (G 0, 10, .inl (fun _ => 0))), (ax 36, .inl (G 0, 10, .inl (fun _ => 0))), (ax 37, .inl (G 0, 6, .inl (fun _ => 0))), (ax 38, .inl (G 0, 6, .inl (fun _ => 0))), (ax 39, .inl (G 0, 6, .inl (fun _ => 0))), (ax 40, .inl (G 2, 2, .inl (fun _ => 0))), (ax 41, .inr (4, [.long 1, .ref (ax 42), .ref (ax 43)])), (ax 42, .inl (G 1, 10, .inr (.inl (fun _ => 0)))), (ax 43, .inl (G 1, 10, .inr (.inl (fun _ => 0)))), (ax 44, .inr (0, [.long 1, .ref (ax 45), .ref (ax 46)])), (ax 45, .inl (G 5, 11, .inr (.inr (.inr (.inr (fun ir => if ir < 11 then some (ax (47 + ir)) else none)))))), (ax 46, .inl (G 4, 10, .inr (.inr (.inr (.inr (fun ir => if ir < 10 then some (ax (58 + ir)) else none)))))), (ax 47, .inl (G 1, 70, .inr (.inl (fun _ => 0)))), (ax 48, .inl (G 1, 70, .inr (.inl (fun _ => 0)))), (ax 49, .inl (G 1, 70, .inr (.inl (fun _ => 0)))), (ax 50, .inl (G 1, 70, .inr (.inl (fun _ => 0)))), (ax 51, .inl (G 1, 70, .inr (.inl (fun _ => 0)))), (ax 52, .inl (G 1, 70, .inr (.inl (fun _ => 0)))), (ax 53, .inl (G 1, 70, .inr (.inl (fun _ => 0)))), (ax 54, .inl (G 1, 70, .inr (.inl (fun _ => 0)))), (ax 55, .inl (G 1, 70, .inr (.inl (fun _ => 0)))), (ax 56, .inl (G 1, 70, .inr (.inl (fun _ => 0)))), (ax 57, .inl (G 1, 70, .inr (.inl (fun _ => 0)))), (ax 58, .inl (G 0, 70, .inl (fun _ => 0))), (ax 59, .inl (G 0, 70, .inl (fun _ => 0))), (ax 60, .inl (G 0, 70, .inl (fun _ => 0))), (ax 61, .inl (G 0, 70, .inl (fun _ => 0))), (ax 62, .inl (G 0, 70, .inl (fun _ => 0))), (ax 63, .inl (G 0, 70, .inl (fun _ => 0))), (ax 64, .inl (G 0, 70, .inl (fun _ => 0))), (ax 65, .inl (G 0, 70, .inl (fun _ => 0))), (ax 66, .inl (G 0, 70, .inl (fun _ => 0))), (ax 67, .inl (G 0, 70, .inl (fun _ => 0))), (ax 68, .inr (1, [.int 0, .int 0, .int 0])), (ax 69, .inr (2, [.int (nI 0), .ref (ax 70), .ref (ax 71), .ref (ax 72), .ref (ax 73)])), (ax 70, .inl (G 0, 8, .inl (fun _ => 0))), (ax 71, .inl (G 0, 8, .inl (fun _ => 0))), (ax 72, .inl (G 0, 8, .inl (fun _ => 0))), (ax 73, .inl (G 0, 8, .inl (fun _ => 0))), (ax 74, .inr (3, [.int (nI 0), .ref (ax 75), .ref (ax 76)])), (ax 75, .inl (G 0, 6, .inl (fun _ => 0))), (ax 76, .inl (G 0, 6, .inl (fun _ => 0))), (ax 77, .inr (8, [.int 0, .ref (ax 78), .ref (ax 79)])), (ax 78, .inl (G 4, 11, .inr (.inr (.inr (.inr (fun ir => if ir < 11 then some (ax (80 + ir)) else none)))))), (ax 79, .inl (G 4, 11, .inr (.inr (.inr (.inr (fun ir => if ir < 11 then some (ax (91 + ir)) else none)))))), (ax 80, .inl (G 0, 10, .inl (fun _ => 0))), (ax 81, .inl (G 0, 10, .inl (fun _ => 0))), (ax 82, .inl (G 0, 10, .inl (fun _ => 0))), (ax 83, .inl (G 0, 10, .inl (fun _ => 0))), (ax 84, .inl (G 0, 10, .inl (fun _ => 0))), (ax 85, .inl (G 0, 10, .inl (fun _ => 0))), (ax 86, .inl (G 0, 10, .inl (fun _ => 0))), (ax 87, .inl (G 0, 10, .inl (fun _ => 0))), (ax 88, .inl (G 0, 10, .inl (fun _ => 0))), (ax 89, .inl (G 0, 10, .inl (fun _ => 0))), (ax 90, .inl (G 0, 10, .inl (fun _ => 0))), (ax 91, .inl (G 0, 10, .inl (fun _ => 0))), (ax 92, .inl (G 0, 10, .inl (fun _ => 0))), (ax 93, .inl (G 0, 10, .inl (fun _ => 0))), (ax 94, .inl (G 0, 10, .inl (fun _ => 0))), (ax 95, .inl (G 0, 10, .inl (fun _ => 0))), (ax 96, .inl (G 0, 10, .inl (fun _ => 0))), (ax 97, .inl (G 0, 10, .inl (fun _ => 0))), (ax 98, .inl (G 0, 10, .inl (fun _ => 0))), (ax 99, .inl (G 0, 10, .inl (fun _ => 0))), (ax 100, .inl (G 0, 10, .inl (fun _ => 0))), (ax 101, .inl (G 0, 10, .inl (fun _ => 0))), (ax 102, .inr (6, [.ref (ax 103), .ref (ax 104), .ref (ax 105), .int 0, .int 0, .ref (ax 106), .ref (ax 107)])), (ax 103, .inl (G 0, 4, .inl (upd (upd (upd (upd (fun _ => 0) 0 (-1)) 1 (-1)) 2 (-1)) 3 (-1)))), (ax 104, .inl (G 0, 4, .inl (fun _ => 0))), (ax 105, .inl (G 4, 4, .inr (.inr (.inr (.inr (fun ir => if ir < 4 then some (ax (108 + ir)) else none)))))), (ax 106, .inl (G 0, 20, .inl (fun _ => 0))), (ax 107, .inl (G 0, 20, .inl (fun _ => 0))), (ax 108, .inl (G 0, 40, .inl (fun _ => 0))), (ax 109, .inl (G 0, 40, .inl (fun _ => 0))), (ax 110, .inl (G 0, 40, .inl (fun _ => 0))), (ax 111, .inl (G 0, 40, .inl (fun _ => 0))), (ax 112, .inr (11, [.ref (ax 113), .int (nI 0), .int (nI 0), .ref (ax 114), .int 0, .int 0, .int 0, .int 0, .int 0, .int 0, .ref (ax 115), .int (nI 0), .int 0, .int 0, .int 0, .int 0, .int (nI 0), .int 0, .int 0, .ref (ax 116), .ref (ax 117), .ref (ax 118), .ref (ax 119), .ref (ax 120), .ref (ax 121), .int (nI 0), .ref (ax 122), .int (nI 0), .ref (ax 123), .ref (ax 124), .ref (ax 125), .ref (ax 126), .ref (ax 127), .ref (ax 128), .int 0])), (ax 113, .inl (G 0, 196, .inl (fun _ => 0))), (ax 114, .inl (G 0, 49, .inl (fun _ => 0))), (ax 115, .inl (G 0, 320, .inl (fun _ => 0))), (ax 116, .inl (G 0, 11, .inl (upd (upd (upd (upd (upd (upd (upd (upd (upd (upd (upd (fun _ => 0) 0 0) 1 5) 2 12) 3 18) 4 23) 5 28) 6 34) 7 42) 8 46) 9 50) 10 54))), (ax 117, .inl (G 0, 54, .inl u14)), (ax 118, .inl (G 1, 10, .inr (.inl (fun _ => 0)))), (ax 119, .inl (G 1, 10, .inr (.inl (fun _ => 0)))), (ax 120, .inl (G 1, 770, .inr (.inl (fun _ => 0)))), (ax 121, .inl (G 0, 32, .inl (fun _ => 0))), (ax 122, .inl (G 0, 12, .inl (fun _ => 0))), (ax 123, .inl (G 0, 110, .inl (fun _ => 0))), (ax 124, .inl (G 0, 110, .inl (fun _ => 0))), (ax 125, .inl (G 2, 2, .inl (fun _ => 0))), (ax 126, .inl (G 0, 4, .inl (lmap (upd (upd (upd (upd (fun _ => 0) 0 (-1)) 1 (-1)) 2 (-1)) 3 (-1))))), (ax 127, .inl (G 0, 4, .inl (fun _ => 0))), (ax 128, .inl (G 0, 160, .inl (fun _ => 0)))] := by rw [hax]; rw [hax] at hD; exact hD
  have hl9 : lv_has ls 4 [(3, .int (nI (5 * 0))), (2, .ref (ax 112)), (1, .ref (ax 0)), (0, .ref b)] := by rw [hax]; exact hl
  obtain ⟨hi, hAx⟩ := inj_of (n := 129) (ax := ax) hD9 rfl
  obtain ⟨adK, adV, hSS⟩ := law_SS (A := A) hts hgv (fun a h => by rw [hAd]; exact Nat.not_le.mpr h)
  exact law_loop ⟨hx, hb, hml, hown, hg, hX, hbl, hbA, hK, hi, hAx, hA, hSS⟩ hr hlocks hAd hL 513 0 (by decide) (by decide) H locs ls (LI.fresh w12 hP9) hS hl9
