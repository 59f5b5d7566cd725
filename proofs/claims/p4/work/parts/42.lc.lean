set_option maxHeartbeats 1000000 in
set_option maxRecDepth 100000 in
theorem lc_quiet {p : Program} {l : Launch} {e : Env} {s : State} {m : MethodId} {below : List Frame} {meth : Method} {c : Code} {b L : Nat} {xs : Nat → Int32} {dC : Nat → ClassId} {dI : Nat → Nat → Nat} {G : Nat → ClassId} {ax adK adV : Nat → Nat} {A : Nat → Prop} {Q : State → Prop} (C1 : lw_C p s m c b L xs dC dI G ax adK adV A) {k : Nat} (hk : 5 * k + 5 ≤ L) (hL : L ≤ 2560) {H : Heap} {locs : List Loc} {ls : Array Slot} (hI : LI dC dI G ax H) (hS : va_S A s.heap H locs) (hl : lv_has ls 4 [(3, .int (nI (5 * k))), (2, .ref (ax 112)), (1, .ref (ax 0)), (0, .ref b)]) (kk : ∀ (H : Heap) (locs : List Loc), LI dC dI G ax H → va_S A s.heap H locs → W p l e room_1 s m #[Value.ref b] below meth c H locs 129 4562 Q (F0 m 1381 ls [])) : W p l e room_1 s m #[Value.ref b] below meth c H locs 129 4562 Q (F0 m 824 ls []) := by
  obtain ⟨hx, hb, hml, hown, hg, hX, hbl, hbA, hK, hi, hAx, hA, hSS⟩ := C1
  obtain ⟨T, Y, fa, N, B, N1, B1, N2, B2, K, S, M, E, Z, hXI, hMI⟩ := hI
  refine lv_aload_n hx hb dL_law_824 rfl (lv_at hl 2 rfl) ?_
  refine lv_aload_n hx hb dL_law_825 rfl (lv_at hl 3 rfl) ?_
  refine lv_iload_n hx hb dL_law_826 rfl (lv_at hl 0 rfl) ?_
  refine lv_iconst (v := 1) hx hb dL_law_827 (by decide) ?_
  refine lv_iadd hx hb dL_law_828 ?_
  refine lv_cg (y := nI (5 * k + 1)) (by rw [show (1 : Int32) = nI 1 from rfl]; exact nI_add _ _) ?_
  refine va_sld hx hb hX hbl hbA hS (vp_in_nI (by omega) (by omega)) dL_law_829 ?_
  refine lv_cg (y := xs (5 * k + 1)) (by rw [nI_clamp (by omega)]) ?_
  refine lv_aload_n hx hb dL_law_830 rfl (lv_at hl 3 rfl) ?_
  refine lv_iload_n hx hb dL_law_831 rfl (lv_at hl 0 rfl) ?_
  refine lv_iconst (v := 2) hx hb dL_law_832 (by decide) ?_
  refine lv_iadd hx hb dL_law_833 ?_
  refine lv_cg (y := nI (5 * k + 2)) (by rw [show (2 : Int32) = nI 2 from rfl]; exact nI_add _ _) ?_
  refine va_sld hx hb hX hbl hbA hS (vp_in_nI (by omega) (by omega)) dL_law_834 ?_
  refine lv_cg (y := xs (5 * k + 2)) (by rw [nI_clamp (by omega)]) ?_
  refine va_calll (va_runV (As := [.int (xs (5 * k + 1)), .int (xs (5 * k + 2))]) (rest := []) ⟨hx, hb, hml, hown, hg⟩ (k_X10_quiet l dC dI G _ ax hi T Y fa N B N1 B1 N2 B2 K S M E Z (xs (5 * k + 1)) (xs (5 * k + 2))) (kwV hg mfX10_quiet wt_690 ⟨Nat.le_of_ble_eq_true rfl, Nat.le_of_ble_eq_true rfl⟩) (preVI hK hXI (hXI.recv hK)) rfl rfl hl.1 rfl (lv_room (Nat.le_of_ble_eq_true rfl)) dL_law_835 ⟨Nat.le_of_ble_eq_true rfl, Nat.le_of_ble_eq_true rfl⟩) hS (fun q _ h => ad_A hAx hA (by decide) hS q h) (ad_A hAx hA (by decide) hS) (fun r1 u1 t1 H1 locs1 ht1 hv1 w1 hB1 hz1 hk1 hS => ?_)
  have hMI := hMI.kept (fr_ad (lo := 0) (hi := 112) hi (by decide) (by decide) (by decide) hk1)
  have hXI : X10I dC dI G ax T Y fa N B N1 B1 N2 B2 K S M E Z H1 := by rw [← ht1]; exact hB1
  refine W.widen (k := 129) (n := 4562) (by omega) (by omega) ?_
  refine lv_pop2_2 hx hb dL_law_838 rfl ?_
  refine lv_aload_n hx hb dL_law_839 rfl (lv_at hl 1 rfl) ?_
  refine lv_aload_n hx hb dL_law_840 rfl (lv_at hl 3 rfl) ?_
  refine lv_iload_n hx hb dL_law_841 rfl (lv_at hl 0 rfl) ?_
  refine lv_iconst (v := 1) hx hb dL_law_842 (by decide) ?_
  refine lv_iadd hx hb dL_law_843 ?_
  refine lv_cg (y := nI (5 * k + 1)) (by rw [show (1 : Int32) = nI 1 from rfl]; exact nI_add _ _) ?_
  refine va_sld hx hb hX hbl hbA hS (vp_in_nI (by omega) (by omega)) dL_law_844 ?_
  refine lv_cg (y := xs (5 * k + 1)) (by rw [nI_clamp (by omega)]) ?_
  refine lv_aload_n hx hb dL_law_845 rfl (lv_at hl 3 rfl) ?_
  refine lv_iload_n hx hb dL_law_846 rfl (lv_at hl 0 rfl) ?_
  refine lv_iconst (v := 2) hx hb dL_law_847 (by decide) ?_
  refine lv_iadd hx hb dL_law_848 ?_
  refine lv_cg (y := nI (5 * k + 2)) (by rw [show (2 : Int32) = nI 2 from rfl]; exact nI_add _ _) ?_
  refine va_sld hx hb hX hbl hbA hS (vp_in_nI (by omega) (by omega)) dL_law_849 ?_
  refine lv_cg (y := xs (5 * k + 2)) (by rw [nI_clamp (by omega)]) ?_
  refine va_calll (va_runV (As := [.int (xs (5 * k + 1)), .int (xs (5 * k + 2))]) (rest := []) ⟨hx, hb, hml, hown, hg⟩ (k_X11_quiet l dC dI G _ ax hi T Y fa N B N1 B1 N2 B2 K S M E Z (xs (5 * k + 1)) (xs (5 * k + 2))) (kwV hg mfX11_quiet wt_1171 ⟨Nat.le_of_ble_eq_true rfl, Nat.le_of_ble_eq_true rfl⟩) (preVI hK hMI (hMI.recv hK)) rfl rfl hl.1 rfl (lv_room (Nat.le_of_ble_eq_true rfl)) dL_law_850 ⟨Nat.le_of_ble_eq_true rfl, Nat.le_of_ble_eq_true rfl⟩) hS (fun q _ h => ad_A hAx hA (by decide) hS q h) (ad_A hAx hA (by decide) hS) (fun r2 u2 t2 H2 locs2 ht2 hv2 w2 hB2 hz2 hk2 hS => ?_)
  have hXI := hXI.kept (fr_ad (lo := 112) (hi := 129) hi (by decide) (by decide) (by decide) hk2)
  have hMI : X11I dC dI G ax T Y fa N B N1 B1 N2 B2 K S M E Z H2 := by rw [← ht2]; exact hB2
  refine W.widen (k := 129) (n := 4562) (by omega) (by omega) ?_
  refine lv_pop2_2 hx hb dL_law_853 rfl ?_
  refine lv_goto (tgt := 1381) hx hb dL_law_854 (by decide) ?_
  exact kk _ _ ⟨_, _, _, _, _, _, _, _, _, _, _, _, _, _, hXI, hMI⟩ hS

set_option maxHeartbeats 1000000 in
set_option maxRecDepth 100000 in
theorem lc_drop {p : Program} {l : Launch} {e : Env} {s : State} {m : MethodId} {below : List Frame} {meth : Method} {c : Code} {b L : Nat} {xs : Nat → Int32} {dC : Nat → ClassId} {dI : Nat → Nat → Nat} {G : Nat → ClassId} {ax adK adV : Nat → Nat} {A : Nat → Prop} {Q : State → Prop} (C1 : lw_C p s m c b L xs dC dI G ax adK adV A) {k : Nat} (hk : 5 * k + 5 ≤ L) (hL : L ≤ 2560) {H : Heap} {locs : List Loc} {ls : Array Slot} (hI : LI dC dI G ax H) (hS : va_S A s.heap H locs) (hl : lv_has ls 4 [(3, .int (nI (5 * k))), (2, .ref (ax 112)), (1, .ref (ax 0)), (0, .ref b)]) (kk : ∀ (H : Heap) (locs : List Loc), LI dC dI G ax H → va_S A s.heap H locs → W p l e room_1 s m #[Value.ref b] below meth c H locs 129 4562 Q (F0 m 1381 ls [])) : W p l e room_1 s m #[Value.ref b] below meth c H locs 129 4562 Q (F0 m 857 ls []) := by
  obtain ⟨hx, hb, hml, hown, hg, hX, hbl, hbA, hK, hi, hAx, hA, hSS⟩ := C1
  obtain ⟨T, Y, fa, N, B, N1, B1, N2, B2, K, S, M, E, Z, hXI, hMI⟩ := hI
  refine lv_aload_n hx hb dL_law_857 rfl (lv_at hl 2 rfl) ?_
  refine lv_aload_n hx hb dL_law_858 rfl (lv_at hl 3 rfl) ?_
  refine lv_iload_n hx hb dL_law_859 rfl (lv_at hl 0 rfl) ?_
  refine lv_iconst (v := 1) hx hb dL_law_860 (by decide) ?_
  refine lv_iadd hx hb dL_law_861 ?_
  refine lv_cg (y := nI (5 * k + 1)) (by rw [show (1 : Int32) = nI 1 from rfl]; exact nI_add _ _) ?_
  refine va_sld hx hb hX hbl hbA hS (vp_in_nI (by omega) (by omega)) dL_law_862 ?_
  refine lv_cg (y := xs (5 * k + 1)) (by rw [nI_clamp (by omega)]) ?_
  refine va_calll (va_runV (As := [.int (xs (5 * k + 1))]) (rest := []) ⟨hx, hb, hml, hown, hg⟩ (k_X10_drop l dC dI G _ ax hi T Y fa N B N1 B1 N2 B2 K S M E Z (xs (5 * k + 1))) (kwV hg mfX10_drop wt_707 ⟨Nat.le_of_ble_eq_true rfl, Nat.le_of_ble_eq_true rfl⟩) (preVI hK hXI (hXI.recv hK)) rfl rfl hl.1 rfl (lv_room (Nat.le_of_ble_eq_true rfl)) dL_law_863 ⟨Nat.le_of_ble_eq_true rfl, Nat.le_of_ble_eq_true rfl⟩) hS (fun q _ h => ad_A hAx hA (by decide) hS q h) (ad_A hAx hA (by decide) hS) (fun r1 u1 t1 H1 locs1 ht1 hv1 w1 hB1 hz1 hk1 hS => ?_)
  have hMI := hMI.kept (fr_ad (lo := 0) (hi := 112) hi (by decide) (by decide) (by decide) hk1)
  have hXI : X10I dC dI G ax T Y fa N B N1 B1 N2 B2 K S M E Z H1 := by rw [← ht1]; exact hB1
  refine W.widen (k := 129) (n := 4562) (by omega) (by omega) ?_
  refine lv_pop2_2 hx hb dL_law_866 rfl ?_
  refine lv_aload_n hx hb dL_law_867 rfl (lv_at hl 1 rfl) ?_
  refine lv_aload_n hx hb dL_law_868 rfl (lv_at hl 3 rfl) ?_
  refine lv_iload_n hx hb dL_law_869 rfl (lv_at hl 0 rfl) ?_
  refine lv_iconst (v := 1) hx hb dL_law_870 (by decide) ?_
  refine lv_iadd hx hb dL_law_871 ?_
  refine lv_cg (y := nI (5 * k + 1)) (by rw [show (1 : Int32) = nI 1 from rfl]; exact nI_add _ _) ?_
  refine va_sld hx hb hX hbl hbA hS (vp_in_nI (by omega) (by omega)) dL_law_872 ?_
  refine lv_cg (y := xs (5 * k + 1)) (by rw [nI_clamp (by omega)]) ?_
  refine va_calll (va_runV (As := [.int (xs (5 * k + 1))]) (rest := []) ⟨hx, hb, hml, hown, hg⟩ (k_X11_drop l dC dI G _ ax hi T Y fa N B N1 B1 N2 B2 K S M E Z (xs (5 * k + 1))) (kwV hg mfX11_drop wt_1179 ⟨Nat.le_of_ble_eq_true rfl, Nat.le_of_ble_eq_true rfl⟩) (preVI hK hMI (hMI.recv hK)) rfl rfl hl.1 rfl (lv_room (Nat.le_of_ble_eq_true rfl)) dL_law_873 ⟨Nat.le_of_ble_eq_true rfl, Nat.le_of_ble_eq_true rfl⟩) hS (fun q _ h => ad_A hAx hA (by decide) hS q h) (ad_A hAx hA (by decide) hS) (fun r2 u2 t2 H2 locs2 ht2 hv2 w2 hB2 hz2 hk2 hS => ?_)
  have hXI := hXI.kept (fr_ad (lo := 112) (hi := 129) hi (by decide) (by decide) (by decide) hk2)
  have hMI : X11I dC dI G ax T Y fa N B N1 B1 N2 B2 K S M E Z H2 := by rw [← ht2]; exact hB2
  refine W.widen (k := 129) (n := 4562) (by omega) (by omega) ?_
  refine lv_pop2_2 hx hb dL_law_876 rfl ?_
  refine lv_goto (tgt := 1381) hx hb dL_law_877 (by decide) ?_
  exact kk _ _ ⟨_, _, _, _, _, _, _, _, _, _, _, _, _, _, hXI, hMI⟩ hS

set_option maxHeartbeats 1000000 in
set_option maxRecDepth 100000 in
theorem lc_swap {p : Program} {l : Launch} {e : Env} {s : State} {m : MethodId} {below : List Frame} {meth : Method} {c : Code} {b L : Nat} {xs : Nat → Int32} {dC : Nat → ClassId} {dI : Nat → Nat → Nat} {G : Nat → ClassId} {ax adK adV : Nat → Nat} {A : Nat → Prop} {Q : State → Prop} (C1 : lw_C p s m c b L xs dC dI G ax adK adV A) {k : Nat} (hk : 5 * k + 5 ≤ L) (hL : L ≤ 2560) {H : Heap} {locs : List Loc} {ls : Array Slot} (hI : LI dC dI G ax H) (hS : va_S A s.heap H locs) (hl : lv_has ls 4 [(3, .int (nI (5 * k))), (2, .ref (ax 112)), (1, .ref (ax 0)), (0, .ref b)]) (kk : ∀ (H : Heap) (locs : List Loc), LI dC dI G ax H → va_S A s.heap H locs → W p l e room_1 s m #[Value.ref b] below meth c H locs 129 4562 Q (F0 m 1381 ls [])) : W p l e room_1 s m #[Value.ref b] below meth c H locs 129 4562 Q (F0 m 880 ls []) := by
  obtain ⟨hx, hb, hml, hown, hg, hX, hbl, hbA, hK, hi, hAx, hA, hSS⟩ := C1
  obtain ⟨T, Y, fa, N, B, N1, B1, N2, B2, K, S, M, E, Z, hXI, hMI⟩ := hI
  refine lv_aload_n hx hb dL_law_880 rfl (lv_at hl 2 rfl) ?_
  refine lv_aload_n hx hb dL_law_881 rfl (lv_at hl 3 rfl) ?_
  refine lv_iload_n hx hb dL_law_882 rfl (lv_at hl 0 rfl) ?_
  refine lv_iconst (v := 1) hx hb dL_law_883 (by decide) ?_
  refine lv_iadd hx hb dL_law_884 ?_
  refine lv_cg (y := nI (5 * k + 1)) (by rw [show (1 : Int32) = nI 1 from rfl]; exact nI_add _ _) ?_
  refine va_sld hx hb hX hbl hbA hS (vp_in_nI (by omega) (by omega)) dL_law_885 ?_
  refine lv_cg (y := xs (5 * k + 1)) (by rw [nI_clamp (by omega)]) ?_
  refine va_calll (va_runV (As := [.int (xs (5 * k + 1))]) (rest := []) ⟨hx, hb, hml, hown, hg⟩ (k_X10_swap l dC dI G _ ax hi T Y fa N B N1 B1 N2 B2 K S M E Z (xs (5 * k + 1))) (kwV hg mfX10_swap wt_711 ⟨Nat.le_of_ble_eq_true rfl, Nat.le_of_ble_eq_true rfl⟩) (preVI hK hXI (hXI.recv hK)) rfl rfl hl.1 rfl (lv_room (Nat.le_of_ble_eq_true rfl)) dL_law_886 ⟨Nat.le_of_ble_eq_true rfl, Nat.le_of_ble_eq_true rfl⟩) hS (fun q _ h => ad_A hAx hA (by decide) hS q h) (ad_A hAx hA (by decide) hS) (fun r1 u1 t1 H1 locs1 ht1 hv1 w1 hB1 hz1 hk1 hS => ?_)
  have hMI := hMI.kept (fr_ad (lo := 0) (hi := 112) hi (by decide) (by decide) (by decide) hk1)
  have hXI : X10I dC dI G ax T Y fa N B N1 B1 N2 B2 K S M E Z H1 := by rw [← ht1]; exact hB1
  refine W.widen (k := 129) (n := 4562) (by omega) (by omega) ?_
  refine lv_pop2_2 hx hb dL_law_889 rfl ?_
  refine lv_aload_n hx hb dL_law_890 rfl (lv_at hl 1 rfl) ?_
  refine lv_aload_n hx hb dL_law_891 rfl (lv_at hl 3 rfl) ?_
  refine lv_iload_n hx hb dL_law_892 rfl (lv_at hl 0 rfl) ?_
  refine lv_iconst (v := 1) hx hb dL_law_893 (by decide) ?_
  refine lv_iadd hx hb dL_law_894 ?_
  refine lv_cg (y := nI (5 * k + 1)) (by rw [show (1 : Int32) = nI 1 from rfl]; exact nI_add _ _) ?_
  refine va_sld hx hb hX hbl hbA hS (vp_in_nI (by omega) (by omega)) dL_law_895 ?_
  refine lv_cg (y := xs (5 * k + 1)) (by rw [nI_clamp (by omega)]) ?_
  refine va_calll (va_runV (As := [.int (xs (5 * k + 1))]) (rest := []) ⟨hx, hb, hml, hown, hg⟩ (k_X11_swap l dC dI G _ ax hi T Y fa N B N1 B1 N2 B2 K S M E Z (xs (5 * k + 1))) (kwV hg mfX11_swap wt_1183 ⟨Nat.le_of_ble_eq_true rfl, Nat.le_of_ble_eq_true rfl⟩) (preVI hK hMI (hMI.recv hK)) rfl rfl hl.1 rfl (lv_room (Nat.le_of_ble_eq_true rfl)) dL_law_896 ⟨Nat.le_of_ble_eq_true rfl, Nat.le_of_ble_eq_true rfl⟩) hS (fun q _ h => ad_A hAx hA (by decide) hS q h) (ad_A hAx hA (by decide) hS) (fun r2 u2 t2 H2 locs2 ht2 hv2 w2 hB2 hz2 hk2 hS => ?_)
  have hXI := hXI.kept (fr_ad (lo := 112) (hi := 129) hi (by decide) (by decide) (by decide) hk2)
  have hMI : X11I dC dI G ax T Y fa N B N1 B1 N2 B2 K S M E Z H2 := by rw [← ht2]; exact hB2
  refine W.widen (k := 129) (n := 4562) (by omega) (by omega) ?_
  refine lv_pop2_2 hx hb dL_law_899 rfl ?_
  refine lv_goto (tgt := 1381) hx hb dL_law_900 (by decide) ?_
  exact kk _ _ ⟨_, _, _, _, _, _, _, _, _, _, _, _, _, _, hXI, hMI⟩ hS

set_option maxHeartbeats 1000000 in
set_option maxRecDepth 100000 in
theorem lc_carry {p : Program} {l : Launch} {e : Env} {s : State} {m : MethodId} {below : List Frame} {meth : Method} {c : Code} {b L : Nat} {xs : Nat → Int32} {dC : Nat → ClassId} {dI : Nat → Nat → Nat} {G : Nat → ClassId} {ax adK adV : Nat → Nat} {A : Nat → Prop} {Q : State → Prop} (C1 : lw_C p s m c b L xs dC dI G ax adK adV A) {k : Nat} (hk : 5 * k + 5 ≤ L) (hL : L ≤ 2560) {H : Heap} {locs : List Loc} {ls : Array Slot} (hI : LI dC dI G ax H) (hS : va_S A s.heap H locs) (hl : lv_has ls 4 [(3, .int (nI (5 * k))), (2, .ref (ax 112)), (1, .ref (ax 0)), (0, .ref b)]) (kk : ∀ (H : Heap) (locs : List Loc), LI dC dI G ax H → va_S A s.heap H locs → W p l e room_1 s m #[Value.ref b] below meth c H locs 129 4562 Q (F0 m 1381 ls [])) : W p l e room_1 s m #[Value.ref b] below meth c H locs 129 4562 Q (F0 m 903 ls []) := by
  obtain ⟨hx, hb, hml, hown, hg, hX, hbl, hbA, hK, hi, hAx, hA, hSS⟩ := C1
  obtain ⟨T, Y, fa, N, B, N1, B1, N2, B2, K, S, M, E, Z, hXI, hMI⟩ := hI
  refine lv_aload_n hx hb dL_law_903 rfl (lv_at hl 2 rfl) ?_
  refine lv_aload_n hx hb dL_law_904 rfl (lv_at hl 3 rfl) ?_
  refine lv_iload_n hx hb dL_law_905 rfl (lv_at hl 0 rfl) ?_
  refine lv_iconst (v := 1) hx hb dL_law_906 (by decide) ?_
  refine lv_iadd hx hb dL_law_907 ?_
  refine lv_cg (y := nI (5 * k + 1)) (by rw [show (1 : Int32) = nI 1 from rfl]; exact nI_add _ _) ?_
  refine va_sld hx hb hX hbl hbA hS (vp_in_nI (by omega) (by omega)) dL_law_908 ?_
  refine lv_cg (y := xs (5 * k + 1)) (by rw [nI_clamp (by omega)]) ?_
  refine lv_aload_n hx hb dL_law_909 rfl (lv_at hl 3 rfl) ?_
  refine lv_iload_n hx hb dL_law_910 rfl (lv_at hl 0 rfl) ?_
  refine lv_iconst (v := 2) hx hb dL_law_911 (by decide) ?_
  refine lv_iadd hx hb dL_law_912 ?_
  refine lv_cg (y := nI (5 * k + 2)) (by rw [show (2 : Int32) = nI 2 from rfl]; exact nI_add _ _) ?_
  refine va_sld hx hb hX hbl hbA hS (vp_in_nI (by omega) (by omega)) dL_law_913 ?_
  refine lv_cg (y := xs (5 * k + 2)) (by rw [nI_clamp (by omega)]) ?_
  refine va_calli (va_runV (As := [.int (xs (5 * k + 1)), .int (xs (5 * k + 2))]) (rest := []) ⟨hx, hb, hml, hown, hg⟩ (k_X10_carry l dC dI G _ ax hi T Y fa N B N1 B1 N2 B2 K S M E Z (xs (5 * k + 1)) (xs (5 * k + 2))) (kwV hg mfX10_carry wt_719 ⟨Nat.le_of_ble_eq_true rfl, Nat.le_of_ble_eq_true rfl⟩) (preVI hK hXI (hXI.recv hK)) rfl rfl hl.1 rfl (lv_room (Nat.le_of_ble_eq_true rfl)) dL_law_914 ⟨Nat.le_of_ble_eq_true rfl, Nat.le_of_ble_eq_true rfl⟩) hS (fun q _ h => ad_A hAx hA (by decide) hS q h) (ad_A hAx hA (by decide) hS) (fun r1 u1 t1 H1 locs1 ht1 hv1 w1 hB1 hz1 hk1 hS => ?_)
  have hMI := hMI.kept (fr_ad (lo := 0) (hi := 112) hi (by decide) (by decide) (by decide) hk1)
  have hXI : X10I dC dI G ax T Y fa N B N1 B1 N2 B2 K S M E Z H1 := by rw [← ht1]; exact hB1
  refine W.widen (k := 129) (n := 4562) (by omega) (by omega) ?_
  refine lv_pop hx hb dL_law_917 rfl ?_
  refine lv_aload_n hx hb dL_law_918 rfl (lv_at hl 1 rfl) ?_
  refine lv_aload_n hx hb dL_law_919 rfl (lv_at hl 3 rfl) ?_
  refine lv_iload_n hx hb dL_law_920 rfl (lv_at hl 0 rfl) ?_
  refine lv_iconst (v := 1) hx hb dL_law_921 (by decide) ?_
  refine lv_iadd hx hb dL_law_922 ?_
  refine lv_cg (y := nI (5 * k + 1)) (by rw [show (1 : Int32) = nI 1 from rfl]; exact nI_add _ _) ?_
  refine va_sld hx hb hX hbl hbA hS (vp_in_nI (by omega) (by omega)) dL_law_923 ?_
  refine lv_cg (y := xs (5 * k + 1)) (by rw [nI_clamp (by omega)]) ?_
  refine lv_aload_n hx hb dL_law_924 rfl (lv_at hl 3 rfl) ?_
  refine lv_iload_n hx hb dL_law_925 rfl (lv_at hl 0 rfl) ?_
  refine lv_iconst (v := 2) hx hb dL_law_926 (by decide) ?_
  refine lv_iadd hx hb dL_law_927 ?_
  refine lv_cg (y := nI (5 * k + 2)) (by rw [show (2 : Int32) = nI 2 from rfl]; exact nI_add _ _) ?_
  refine va_sld hx hb hX hbl hbA hS (vp_in_nI (by omega) (by omega)) dL_law_928 ?_
  refine lv_cg (y := xs (5 * k + 2)) (by rw [nI_clamp (by omega)]) ?_
  refine va_calli (va_runV (As := [.int (xs (5 * k + 1)), .int (xs (5 * k + 2))]) (rest := []) ⟨hx, hb, hml, hown, hg⟩ (k_X11_carry l dC dI G _ ax hi T Y fa N B N1 B1 N2 B2 K S M E Z (xs (5 * k + 1)) (xs (5 * k + 2))) (kwV hg mfX11_carry wt_1191 ⟨Nat.le_of_ble_eq_true rfl, Nat.le_of_ble_eq_true rfl⟩) (preVI hK hMI (hMI.recv hK)) rfl rfl hl.1 rfl (lv_room (Nat.le_of_ble_eq_true rfl)) dL_law_929 ⟨Nat.le_of_ble_eq_true rfl, Nat.le_of_ble_eq_true rfl⟩) hS (fun q _ h => ad_A hAx hA (by decide) hS q h) (ad_A hAx hA (by decide) hS) (fun r2 u2 t2 H2 locs2 ht2 hv2 w2 hB2 hz2 hk2 hS => ?_)
  have hXI := hXI.kept (fr_ad (lo := 112) (hi := 129) hi (by decide) (by decide) (by decide) hk2)
  have hMI : X11I dC dI G ax T Y fa N B N1 B1 N2 B2 K S M E Z H2 := by rw [← ht2]; exact hB2
  refine W.widen (k := 129) (n := 4562) (by omega) (by omega) ?_
  refine lv_pop hx hb dL_law_932 rfl ?_
  refine lv_goto (tgt := 1381) hx hb dL_law_933 (by decide) ?_
  exact kk _ _ ⟨_, _, _, _, _, _, _, _, _, _, _, _, _, _, hXI, hMI⟩ hS

set_option maxHeartbeats 1000000 in
set_option maxRecDepth 100000 in
theorem lc_learn {p : Program} {l : Launch} {e : Env} {s : State} {m : MethodId} {below : List Frame} {meth : Method} {c : Code} {b L : Nat} {xs : Nat → Int32} {dC : Nat → ClassId} {dI : Nat → Nat → Nat} {G : Nat → ClassId} {ax adK adV : Nat → Nat} {A : Nat → Prop} {Q : State → Prop} (C1 : lw_C p s m c b L xs dC dI G ax adK adV A) {k : Nat} (hk : 5 * k + 5 ≤ L) (hL : L ≤ 2560) {H : Heap} {locs : List Loc} {ls : Array Slot} (hI : LI dC dI G ax H) (hS : va_S A s.heap H locs) (hl : lv_has ls 4 [(3, .int (nI (5 * k))), (2, .ref (ax 112)), (1, .ref (ax 0)), (0, .ref b)]) (kk : ∀ (H : Heap) (locs : List Loc), LI dC dI G ax H → va_S A s.heap H locs → W p l e room_1 s m #[Value.ref b] below meth c H locs 129 4562 Q (F0 m 1381 ls [])) : W p l e room_1 s m #[Value.ref b] below meth c H locs 129 4562 Q (F0 m 936 ls []) := by
  obtain ⟨hx, hb, hml, hown, hg, hX, hbl, hbA, hK, hi, hAx, hA, hSS⟩ := C1
  obtain ⟨T, Y, fa, N, B, N1, B1, N2, B2, K, S, M, E, Z, hXI, hMI⟩ := hI
  refine lv_aload_n hx hb dL_law_936 rfl (lv_at hl 2 rfl) ?_
  refine lv_aload_n hx hb dL_law_937 rfl (lv_at hl 3 rfl) ?_
  refine lv_iload_n hx hb dL_law_938 rfl (lv_at hl 0 rfl) ?_
  refine lv_iconst (v := 1) hx hb dL_law_939 (by decide) ?_
  refine lv_iadd hx hb dL_law_940 ?_
  refine lv_cg (y := nI (5 * k + 1)) (by rw [show (1 : Int32) = nI 1 from rfl]; exact nI_add _ _) ?_
  refine va_sld hx hb hX hbl hbA hS (vp_in_nI (by omega) (by omega)) dL_law_941 ?_
  refine lv_cg (y := xs (5 * k + 1)) (by rw [nI_clamp (by omega)]) ?_
  refine lv_aload_n hx hb dL_law_942 rfl (lv_at hl 3 rfl) ?_
  refine lv_iload_n hx hb dL_law_943 rfl (lv_at hl 0 rfl) ?_
  refine lv_iconst (v := 2) hx hb dL_law_944 (by decide) ?_
  refine lv_iadd hx hb dL_law_945 ?_
  refine lv_cg (y := nI (5 * k + 2)) (by rw [show (2 : Int32) = nI 2 from rfl]; exact nI_add _ _) ?_
  refine va_sld hx hb hX hbl hbA hS (vp_in_nI (by omega) (by omega)) dL_law_946 ?_
  refine lv_cg (y := xs (5 * k + 2)) (by rw [nI_clamp (by omega)]) ?_
  refine lv_aload_n hx hb dL_law_947 rfl (lv_at hl 3 rfl) ?_
  refine lv_iload_n hx hb dL_law_948 rfl (lv_at hl 0 rfl) ?_
  refine lv_iconst (v := 3) hx hb dL_law_949 (by decide) ?_
  refine lv_iadd hx hb dL_law_950 ?_
  refine lv_cg (y := nI (5 * k + 3)) (by rw [show (3 : Int32) = nI 3 from rfl]; exact nI_add _ _) ?_
  refine va_sld hx hb hX hbl hbA hS (vp_in_nI (by omega) (by omega)) dL_law_951 ?_
  refine lv_cg (y := xs (5 * k + 3)) (by rw [nI_clamp (by omega)]) ?_
  refine lv_aload_n hx hb dL_law_952 rfl (lv_at hl 3 rfl) ?_
  refine lv_iload_n hx hb dL_law_953 rfl (lv_at hl 0 rfl) ?_
  refine lv_iconst (v := 4) hx hb dL_law_954 (by decide) ?_
  refine lv_iadd hx hb dL_law_955 ?_
  refine lv_cg (y := nI (5 * k + 4)) (by rw [show (4 : Int32) = nI 4 from rfl]; exact nI_add _ _) ?_
  refine va_sld hx hb hX hbl hbA hS (vp_in_nI (by omega) (by omega)) dL_law_956 ?_
  refine lv_cg (y := xs (5 * k + 4)) (by rw [nI_clamp (by omega)]) ?_
  refine va_calli (va_runV (As := [.int (xs (5 * k + 1)), .int (xs (5 * k + 2)), .int (xs (5 * k + 3)), .int (xs (5 * k + 4))]) (rest := []) ⟨hx, hb, hml, hown, hg⟩ (k_X10_learnE l dC dI G _ ax hi T Y fa N B N1 B1 N2 B2 K S M E Z (xs (5 * k + 1)) (xs (5 * k + 2)) (xs (5 * k + 3)) (xs (5 * k + 4))) (kwV hg mfX10_learn wt_730 ⟨Nat.le_of_ble_eq_true rfl, Nat.le_of_ble_eq_true rfl⟩) (preVI hK hXI (hXI.recv hK)) rfl rfl hl.1 rfl (lv_room (Nat.le_of_ble_eq_true rfl)) dL_law_957 ⟨Nat.le_of_ble_eq_true rfl, Nat.le_of_ble_eq_true rfl⟩) hS (fun q _ h => ad_A hAx hA (by decide) hS q h) (ad_A hAx hA (by decide) hS) (fun r1 u1 t1 H1 locs1 ht1 hv1 w1 hB1 hz1 hk1 hS => ?_)
  have hMI := hMI.kept (fr_ad (lo := 0) (hi := 112) hi (by decide) (by decide) (by decide) hk1)
  have hXI : X10I dC dI G ax T Y fa N B N1 B1 N2 B2 K (if ((0 ≤ (xs (5 * k + 1)).toInt ∧ (xs (5 * k + 1)).toInt < ((N : Nat) : Int)) ∧ ((xs (5 * k + 2)).toInt = -4 ∨ (0 ≤ (xs (5 * k + 2)).toInt ∧ (xs (5 * k + 2)).toInt < ((B : Nat) : Int))) ∧ (0 ≤ (xs (5 * k + 3)).toInt ∧ (xs (5 * k + 3)).toInt < ((B : Nat) : Int)) ∧ 0 ≤ (xs (5 * k + 4)).toInt ∧ (xs (5 * k + 4)).toInt ≤ 20) ∧ S < 8 then S + 1 else S) M E Z H1 := by rw [← ht1]; exact hB1
  refine W.widen (k := 129) (n := 4562) (by omega) (by omega) ?_
  refine lv_pop hx hb dL_law_960 rfl ?_
  refine lv_aload_n hx hb dL_law_961 rfl (lv_at hl 1 rfl) ?_
  refine lv_aload_n hx hb dL_law_962 rfl (lv_at hl 3 rfl) ?_
  refine lv_iload_n hx hb dL_law_963 rfl (lv_at hl 0 rfl) ?_
  refine lv_iconst (v := 1) hx hb dL_law_964 (by decide) ?_
  refine lv_iadd hx hb dL_law_965 ?_
  refine lv_cg (y := nI (5 * k + 1)) (by rw [show (1 : Int32) = nI 1 from rfl]; exact nI_add _ _) ?_
  refine va_sld hx hb hX hbl hbA hS (vp_in_nI (by omega) (by omega)) dL_law_966 ?_
  refine lv_cg (y := xs (5 * k + 1)) (by rw [nI_clamp (by omega)]) ?_
  refine lv_aload_n hx hb dL_law_967 rfl (lv_at hl 3 rfl) ?_
  refine lv_iload_n hx hb dL_law_968 rfl (lv_at hl 0 rfl) ?_
  refine lv_iconst (v := 2) hx hb dL_law_969 (by decide) ?_
  refine lv_iadd hx hb dL_law_970 ?_
  refine lv_cg (y := nI (5 * k + 2)) (by rw [show (2 : Int32) = nI 2 from rfl]; exact nI_add _ _) ?_
  refine va_sld hx hb hX hbl hbA hS (vp_in_nI (by omega) (by omega)) dL_law_971 ?_
  refine lv_cg (y := xs (5 * k + 2)) (by rw [nI_clamp (by omega)]) ?_
  refine lv_aload_n hx hb dL_law_972 rfl (lv_at hl 3 rfl) ?_
  refine lv_iload_n hx hb dL_law_973 rfl (lv_at hl 0 rfl) ?_
  refine lv_iconst (v := 3) hx hb dL_law_974 (by decide) ?_
  refine lv_iadd hx hb dL_law_975 ?_
  refine lv_cg (y := nI (5 * k + 3)) (by rw [show (3 : Int32) = nI 3 from rfl]; exact nI_add _ _) ?_
  refine va_sld hx hb hX hbl hbA hS (vp_in_nI (by omega) (by omega)) dL_law_976 ?_
  refine lv_cg (y := xs (5 * k + 3)) (by rw [nI_clamp (by omega)]) ?_
  refine lv_aload_n hx hb dL_law_977 rfl (lv_at hl 3 rfl) ?_
  refine lv_iload_n hx hb dL_law_978 rfl (lv_at hl 0 rfl) ?_
  refine lv_iconst (v := 4) hx hb dL_law_979 (by decide) ?_
  refine lv_iadd hx hb dL_law_980 ?_
  refine lv_cg (y := nI (5 * k + 4)) (by rw [show (4 : Int32) = nI 4 from rfl]; exact nI_add _ _) ?_
  refine va_sld hx hb hX hbl hbA hS (vp_in_nI (by omega) (by omega)) dL_law_981 ?_
  refine lv_cg (y := xs (5 * k + 4)) (by rw [nI_clamp (by omega)]) ?_
  refine va_calli (va_runV (As := [.int (xs (5 * k + 1)), .int (xs (5 * k + 2)), .int (xs (5 * k + 3)), .int (xs (5 * k + 4))]) (rest := []) ⟨hx, hb, hml, hown, hg⟩ (k_X11_learnE l dC dI G _ ax hi T Y fa N B N1 B1 N2 B2 K S M E Z (xs (5 * k + 1)) (xs (5 * k + 2)) (xs (5 * k + 3)) (xs (5 * k + 4))) (kwV hg mfX11_learn wt_1196 ⟨Nat.le_of_ble_eq_true rfl, Nat.le_of_ble_eq_true rfl⟩) (preVI hK hMI (hMI.recv hK)) rfl rfl hl.1 rfl (lv_room (Nat.le_of_ble_eq_true rfl)) dL_law_982 ⟨Nat.le_of_ble_eq_true rfl, Nat.le_of_ble_eq_true rfl⟩) hS (fun q _ h => ad_A hAx hA (by decide) hS q h) (ad_A hAx hA (by decide) hS) (fun r2 u2 t2 H2 locs2 ht2 hv2 w2 hB2 hz2 hk2 hS => ?_)
  have hXI := hXI.kept (fr_ad (lo := 112) (hi := 129) hi (by decide) (by decide) (by decide) hk2)
  have hMI : X11I dC dI G ax T Y fa N B N1 B1 N2 B2 K (if ((0 ≤ (xs (5 * k + 1)).toInt ∧ (xs (5 * k + 1)).toInt < ((N : Nat) : Int)) ∧ ((xs (5 * k + 2)).toInt = -4 ∨ (0 ≤ (xs (5 * k + 2)).toInt ∧ (xs (5 * k + 2)).toInt < ((B : Nat) : Int))) ∧ (0 ≤ (xs (5 * k + 3)).toInt ∧ (xs (5 * k + 3)).toInt < ((B : Nat) : Int)) ∧ 0 ≤ (xs (5 * k + 4)).toInt ∧ (xs (5 * k + 4)).toInt ≤ 20) ∧ S < 8 then S + 1 else S) M E Z H2 := by rw [← ht2]; exact hB2
  refine W.widen (k := 129) (n := 4562) (by omega) (by omega) ?_
  refine lv_pop hx hb dL_law_985 rfl ?_
  refine lv_goto (tgt := 1381) hx hb dL_law_986 (by decide) ?_
  exact kk _ _ ⟨_, _, _, _, _, _, _, _, _, _, _, _, _, _, hXI, hMI⟩ hS

set_option maxHeartbeats 1000000 in
set_option maxRecDepth 100000 in
theorem lc_forget {p : Program} {l : Launch} {e : Env} {s : State} {m : MethodId} {below : List Frame} {meth : Method} {c : Code} {b L : Nat} {xs : Nat → Int32} {dC : Nat → ClassId} {dI : Nat → Nat → Nat} {G : Nat → ClassId} {ax adK adV : Nat → Nat} {A : Nat → Prop} {Q : State → Prop} (C1 : lw_C p s m c b L xs dC dI G ax adK adV A) {k : Nat} (hk : 5 * k + 5 ≤ L) (hL : L ≤ 2560) {H : Heap} {locs : List Loc} {ls : Array Slot} (hI : LI dC dI G ax H) (hS : va_S A s.heap H locs) (hl : lv_has ls 4 [(3, .int (nI (5 * k))), (2, .ref (ax 112)), (1, .ref (ax 0)), (0, .ref b)]) (kk : ∀ (H : Heap) (locs : List Loc), LI dC dI G ax H → va_S A s.heap H locs → W p l e room_1 s m #[Value.ref b] below meth c H locs 129 4562 Q (F0 m 1381 ls [])) : W p l e room_1 s m #[Value.ref b] below meth c H locs 129 4562 Q (F0 m 989 ls []) := by
  obtain ⟨hx, hb, hml, hown, hg, hX, hbl, hbA, hK, hi, hAx, hA, hSS⟩ := C1
  obtain ⟨T, Y, fa, N, B, N1, B1, N2, B2, K, S, M, E, Z, hXI, hMI⟩ := hI
  refine lv_aload_n hx hb dL_law_989 rfl (lv_at hl 2 rfl) ?_
  refine lv_aload_n hx hb dL_law_990 rfl (lv_at hl 3 rfl) ?_
  refine lv_iload_n hx hb dL_law_991 rfl (lv_at hl 0 rfl) ?_
  refine lv_iconst (v := 1) hx hb dL_law_992 (by decide) ?_
  refine lv_iadd hx hb dL_law_993 ?_
  refine lv_cg (y := nI (5 * k + 1)) (by rw [show (1 : Int32) = nI 1 from rfl]; exact nI_add _ _) ?_
  refine va_sld hx hb hX hbl hbA hS (vp_in_nI (by omega) (by omega)) dL_law_994 ?_
  refine lv_cg (y := xs (5 * k + 1)) (by rw [nI_clamp (by omega)]) ?_
  refine va_calli (va_runV (As := [.int (xs (5 * k + 1))]) (rest := []) ⟨hx, hb, hml, hown, hg⟩ (k_X10_forgetE l dC dI G _ ax hi T Y fa N B N1 B1 N2 B2 K S M E Z (xs (5 * k + 1))) (kwV hg mfX10_forget wt_738 ⟨Nat.le_of_ble_eq_true rfl, Nat.le_of_ble_eq_true rfl⟩) (preVI hK hXI (hXI.recv hK)) rfl rfl hl.1 rfl (lv_room (Nat.le_of_ble_eq_true rfl)) dL_law_995 ⟨Nat.le_of_ble_eq_true rfl, Nat.le_of_ble_eq_true rfl⟩) hS (fun q _ h => ad_A hAx hA (by decide) hS q h) (ad_A hAx hA (by decide) hS) (fun r1 u1 t1 H1 locs1 ht1 hv1 w1 hB1 hz1 hk1 hS => ?_)
  have hMI := hMI.kept (fr_ad (lo := 0) (hi := 112) hi (by decide) (by decide) (by decide) hk1)
  have hXI : X10I dC dI G ax T Y fa N B N1 B1 N2 B2 K (if 0 ≤ (xs (5 * k + 1)).toInt ∧ (xs (5 * k + 1)).toInt ≤ ((S : Nat) : Int) then (xs (5 * k + 1)).toNatClampNeg else S) M E Z H1 := by rw [← ht1]; exact hB1
  refine W.widen (k := 129) (n := 4562) (by omega) (by omega) ?_
  refine lv_pop hx hb dL_law_998 rfl ?_
  refine lv_aload_n hx hb dL_law_999 rfl (lv_at hl 1 rfl) ?_
  refine lv_aload_n hx hb dL_law_1000 rfl (lv_at hl 3 rfl) ?_
  refine lv_iload_n hx hb dL_law_1001 rfl (lv_at hl 0 rfl) ?_
  refine lv_iconst (v := 1) hx hb dL_law_1002 (by decide) ?_
  refine lv_iadd hx hb dL_law_1003 ?_
  refine lv_cg (y := nI (5 * k + 1)) (by rw [show (1 : Int32) = nI 1 from rfl]; exact nI_add _ _) ?_
  refine va_sld hx hb hX hbl hbA hS (vp_in_nI (by omega) (by omega)) dL_law_1004 ?_
  refine lv_cg (y := xs (5 * k + 1)) (by rw [nI_clamp (by omega)]) ?_
  refine va_calli (va_runV (As := [.int (xs (5 * k + 1))]) (rest := []) ⟨hx, hb, hml, hown, hg⟩ (k_X11_forgetE l dC dI G _ ax hi T Y fa N B N1 B1 N2 B2 K S M E Z (xs (5 * k + 1))) (kwV hg mfX11_forget wt_1200 ⟨Nat.le_of_ble_eq_true rfl, Nat.le_of_ble_eq_true rfl⟩) (preVI hK hMI (hMI.recv hK)) rfl rfl hl.1 rfl (lv_room (Nat.le_of_ble_eq_true rfl)) dL_law_1005 ⟨Nat.le_of_ble_eq_true rfl, Nat.le_of_ble_eq_true rfl⟩) hS (fun q _ h => ad_A hAx hA (by decide) hS q h) (ad_A hAx hA (by decide) hS) (fun r2 u2 t2 H2 locs2 ht2 hv2 w2 hB2 hz2 hk2 hS => ?_)
  have hXI := hXI.kept (fr_ad (lo := 112) (hi := 129) hi (by decide) (by decide) (by decide) hk2)
  have hMI : X11I dC dI G ax T Y fa N B N1 B1 N2 B2 K (if 0 ≤ (xs (5 * k + 1)).toInt ∧ (xs (5 * k + 1)).toInt ≤ ((S : Nat) : Int) then (xs (5 * k + 1)).toNatClampNeg else S) M E Z H2 := by rw [← ht2]; exact hB2
  refine W.widen (k := 129) (n := 4562) (by omega) (by omega) ?_
  refine lv_pop hx hb dL_law_1008 rfl ?_
  refine lv_goto (tgt := 1381) hx hb dL_law_1009 (by decide) ?_
  exact kk _ _ ⟨_, _, _, _, _, _, _, _, _, _, _, _, _, _, hXI, hMI⟩ hS

set_option maxHeartbeats 1000000 in
set_option maxRecDepth 100000 in
theorem lc_steps {p : Program} {l : Launch} {e : Env} {s : State} {m : MethodId} {below : List Frame} {meth : Method} {c : Code} {b L : Nat} {xs : Nat → Int32} {dC : Nat → ClassId} {dI : Nat → Nat → Nat} {G : Nat → ClassId} {ax adK adV : Nat → Nat} {A : Nat → Prop} {Q : State → Prop} (C1 : lw_C p s m c b L xs dC dI G ax adK adV A) {k : Nat} (hk : 5 * k + 5 ≤ L) (hL : L ≤ 2560) {H : Heap} {locs : List Loc} {ls : Array Slot} (hI : LI dC dI G ax H) (hS : va_S A s.heap H locs) (hl : lv_has ls 4 [(3, .int (nI (5 * k))), (2, .ref (ax 112)), (1, .ref (ax 0)), (0, .ref b)]) (kk : ∀ (H : Heap) (locs : List Loc), LI dC dI G ax H → va_S A s.heap H locs → W p l e room_1 s m #[Value.ref b] below meth c H locs 129 4562 Q (F0 m 1381 ls [])) : W p l e room_1 s m #[Value.ref b] below meth c H locs 129 4562 Q (F0 m 1012 ls []) := by
  obtain ⟨hx, hb, hml, hown, hg, hX, hbl, hbA, hK, hi, hAx, hA, hSS⟩ := C1
  obtain ⟨T, Y, fa, N, B, N1, B1, N2, B2, K, S, M, E, Z, hXI, hMI⟩ := hI
  refine lv_aload_n hx hb dL_law_1012 rfl (lv_at hl 2 rfl) ?_
  refine lv_aload_n hx hb dL_law_1013 rfl (lv_at hl 3 rfl) ?_
  refine lv_iload_n hx hb dL_law_1014 rfl (lv_at hl 0 rfl) ?_
  refine lv_iconst (v := 1) hx hb dL_law_1015 (by decide) ?_
  refine lv_iadd hx hb dL_law_1016 ?_
  refine lv_cg (y := nI (5 * k + 1)) (by rw [show (1 : Int32) = nI 1 from rfl]; exact nI_add _ _) ?_
  refine va_sld hx hb hX hbl hbA hS (vp_in_nI (by omega) (by omega)) dL_law_1017 ?_
  refine lv_cg (y := xs (5 * k + 1)) (by rw [nI_clamp (by omega)]) ?_
  refine lv_aload_n hx hb dL_law_1018 rfl (lv_at hl 3 rfl) ?_
  refine lv_iload_n hx hb dL_law_1019 rfl (lv_at hl 0 rfl) ?_
  refine lv_iconst (v := 2) hx hb dL_law_1020 (by decide) ?_
  refine lv_iadd hx hb dL_law_1021 ?_
  refine lv_cg (y := nI (5 * k + 2)) (by rw [show (2 : Int32) = nI 2 from rfl]; exact nI_add _ _) ?_
  refine va_sld hx hb hX hbl hbA hS (vp_in_nI (by omega) (by omega)) dL_law_1022 ?_
  refine lv_cg (y := xs (5 * k + 2)) (by rw [nI_clamp (by omega)]) ?_
  refine va_calli (va_runV (As := [.int (xs (5 * k + 1)), .int (xs (5 * k + 2))]) (rest := []) ⟨hx, hb, hml, hown, hg⟩ (k_X10_steps l dC dI G _ ax hi T Y fa N B N1 B1 N2 B2 K S M E Z (xs (5 * k + 1)) (xs (5 * k + 2))) (kwV hg mfX10_steps wt_742 ⟨Nat.le_of_ble_eq_true rfl, Nat.le_of_ble_eq_true rfl⟩) (preVI hK hXI (hXI.recv hK)) rfl rfl hl.1 rfl (lv_room (Nat.le_of_ble_eq_true rfl)) dL_law_1023 ⟨Nat.le_of_ble_eq_true rfl, Nat.le_of_ble_eq_true rfl⟩) hS (fun q _ h => ad_A hAx hA (by decide) hS q h) (ad_A hAx hA (by decide) hS) (fun r1 u1 t1 H1 locs1 ht1 hv1 w1 hB1 hz1 hk1 hS => ?_)
  have hMI := hMI.kept (fr_ad (lo := 0) (hi := 112) hi (by decide) (by decide) (by decide) hk1)
  have hXI : X10I dC dI G ax T Y fa N B N1 B1 N2 B2 K S M E Z H1 := by rw [← ht1]; exact hB1
  refine W.widen (k := 129) (n := 4562) (by omega) (by omega) ?_
  refine lv_pop hx hb dL_law_1026 rfl ?_
  refine lv_aload_n hx hb dL_law_1027 rfl (lv_at hl 1 rfl) ?_
  refine lv_aload_n hx hb dL_law_1028 rfl (lv_at hl 3 rfl) ?_
  refine lv_iload_n hx hb dL_law_1029 rfl (lv_at hl 0 rfl) ?_
  refine lv_iconst (v := 1) hx hb dL_law_1030 (by decide) ?_
  refine lv_iadd hx hb dL_law_1031 ?_
  refine lv_cg (y := nI (5 * k + 1)) (by rw [show (1 : Int32) = nI 1 from rfl]; exact nI_add _ _) ?_
  refine va_sld hx hb hX hbl hbA hS (vp_in_nI (by omega) (by omega)) dL_law_1032 ?_
  refine lv_cg (y := xs (5 * k + 1)) (by rw [nI_clamp (by omega)]) ?_
  refine lv_aload_n hx hb dL_law_1033 rfl (lv_at hl 3 rfl) ?_
  refine lv_iload_n hx hb dL_law_1034 rfl (lv_at hl 0 rfl) ?_
  refine lv_iconst (v := 2) hx hb dL_law_1035 (by decide) ?_
  refine lv_iadd hx hb dL_law_1036 ?_
  refine lv_cg (y := nI (5 * k + 2)) (by rw [show (2 : Int32) = nI 2 from rfl]; exact nI_add _ _) ?_
  refine va_sld hx hb hX hbl hbA hS (vp_in_nI (by omega) (by omega)) dL_law_1037 ?_
  refine lv_cg (y := xs (5 * k + 2)) (by rw [nI_clamp (by omega)]) ?_
  refine va_calli (va_runV (As := [.int (xs (5 * k + 1)), .int (xs (5 * k + 2))]) (rest := []) ⟨hx, hb, hml, hown, hg⟩ (k_X11_steps l dC dI G _ ax hi T Y fa N B N1 B1 N2 B2 K S M E Z (xs (5 * k + 1)) (xs (5 * k + 2))) (kwV hg mfX11_steps wt_1204 ⟨Nat.le_of_ble_eq_true rfl, Nat.le_of_ble_eq_true rfl⟩) (preVI hK hMI (hMI.recv hK)) rfl rfl hl.1 rfl (lv_room (Nat.le_of_ble_eq_true rfl)) dL_law_1038 ⟨Nat.le_of_ble_eq_true rfl, Nat.le_of_ble_eq_true rfl⟩) hS (fun q _ h => ad_A hAx hA (by decide) hS q h) (ad_A hAx hA (by decide) hS) (fun r2 u2 t2 H2 locs2 ht2 hv2 w2 hB2 hz2 hk2 hS => ?_)
  have hXI := hXI.kept (fr_ad (lo := 112) (hi := 129) hi (by decide) (by decide) (by decide) hk2)
  have hMI : X11I dC dI G ax T Y fa N B N1 B1 N2 B2 K S M E Z H2 := by rw [← ht2]; exact hB2
  refine W.widen (k := 129) (n := 4562) (by omega) (by omega) ?_
  refine lv_pop hx hb dL_law_1041 rfl ?_
  refine lv_goto (tgt := 1381) hx hb dL_law_1042 (by decide) ?_
  exact kk _ _ ⟨_, _, _, _, _, _, _, _, _, _, _, _, _, _, hXI, hMI⟩ hS

set_option maxHeartbeats 1000000 in
set_option maxRecDepth 100000 in
theorem lc_mark {p : Program} {l : Launch} {e : Env} {s : State} {m : MethodId} {below : List Frame} {meth : Method} {c : Code} {b L : Nat} {xs : Nat → Int32} {dC : Nat → ClassId} {dI : Nat → Nat → Nat} {G : Nat → ClassId} {ax adK adV : Nat → Nat} {A : Nat → Prop} {Q : State → Prop} (C1 : lw_C p s m c b L xs dC dI G ax adK adV A) {k : Nat} (hk : 5 * k + 5 ≤ L) (hL : L ≤ 2560) {H : Heap} {locs : List Loc} {ls : Array Slot} (hI : LI dC dI G ax H) (hS : va_S A s.heap H locs) (hl : lv_has ls 4 [(3, .int (nI (5 * k))), (2, .ref (ax 112)), (1, .ref (ax 0)), (0, .ref b)]) (kk : ∀ (H : Heap) (locs : List Loc), LI dC dI G ax H → va_S A s.heap H locs → W p l e room_1 s m #[Value.ref b] below meth c H locs 129 4562 Q (F0 m 1381 ls [])) : W p l e room_1 s m #[Value.ref b] below meth c H locs 129 4562 Q (F0 m 1045 ls []) := by
  obtain ⟨hx, hb, hml, hown, hg, hX, hbl, hbA, hK, hi, hAx, hA, hSS⟩ := C1
  obtain ⟨T, Y, fa, N, B, N1, B1, N2, B2, K, S, M, E, Z, hXI, hMI⟩ := hI
  refine lv_aload_n hx hb dL_law_1045 rfl (lv_at hl 2 rfl) ?_
  refine lv_aload_n hx hb dL_law_1046 rfl (lv_at hl 3 rfl) ?_
  refine lv_iload_n hx hb dL_law_1047 rfl (lv_at hl 0 rfl) ?_
  refine lv_iconst (v := 1) hx hb dL_law_1048 (by decide) ?_
  refine lv_iadd hx hb dL_law_1049 ?_
  refine lv_cg (y := nI (5 * k + 1)) (by rw [show (1 : Int32) = nI 1 from rfl]; exact nI_add _ _) ?_
  refine va_sld hx hb hX hbl hbA hS (vp_in_nI (by omega) (by omega)) dL_law_1050 ?_
  refine lv_cg (y := xs (5 * k + 1)) (by rw [nI_clamp (by omega)]) ?_
  refine lv_aload_n hx hb dL_law_1051 rfl (lv_at hl 3 rfl) ?_
  refine lv_iload_n hx hb dL_law_1052 rfl (lv_at hl 0 rfl) ?_
  refine lv_iconst (v := 2) hx hb dL_law_1053 (by decide) ?_
  refine lv_iadd hx hb dL_law_1054 ?_
  refine lv_cg (y := nI (5 * k + 2)) (by rw [show (2 : Int32) = nI 2 from rfl]; exact nI_add _ _) ?_
  refine va_sld hx hb hX hbl hbA hS (vp_in_nI (by omega) (by omega)) dL_law_1055 ?_
  refine lv_cg (y := xs (5 * k + 2)) (by rw [nI_clamp (by omega)]) ?_
  refine va_calli (va_runV (As := [.int (xs (5 * k + 1)), .int (xs (5 * k + 2))]) (rest := []) ⟨hx, hb, hml, hown, hg⟩ (k_X10_markE l dC dI G _ ax hi T Y fa N B N1 B1 N2 B2 K S M E Z (xs (5 * k + 1)) (xs (5 * k + 2))) (kwV hg mfX10_mark wt_751 ⟨Nat.le_of_ble_eq_true rfl, Nat.le_of_ble_eq_true rfl⟩) (preVI hK hXI (hXI.recv hK)) rfl rfl hl.1 rfl (lv_room (Nat.le_of_ble_eq_true rfl)) dL_law_1056 ⟨Nat.le_of_ble_eq_true rfl, Nat.le_of_ble_eq_true rfl⟩) hS (fun q _ h => ad_A hAx hA (by decide) hS q h) (ad_A hAx hA (by decide) hS) (fun r1 u1 t1 H1 locs1 ht1 hv1 w1 hB1 hz1 hk1 hS => ?_)
  have hMI := hMI.kept (fr_ad (lo := 0) (hi := 112) hi (by decide) (by decide) (by decide) hk1)
  have hXI : X10I dC dI G ax T Y fa N B N1 B1 N2 B2 K S (if ((0 ≤ (xs (5 * k + 1)).toInt ∧ (xs (5 * k + 1)).toInt < ((N : Nat) : Int)) ∧ 0 ≤ (xs (5 * k + 2)).toInt ∧ (xs (5 * k + 2)).toInt ≤ 9) ∧ M < 6 then M + 1 else M) E Z H1 := by rw [← ht1]; exact hB1
  refine W.widen (k := 129) (n := 4562) (by omega) (by omega) ?_
  refine lv_pop hx hb dL_law_1059 rfl ?_
  refine lv_aload_n hx hb dL_law_1060 rfl (lv_at hl 1 rfl) ?_
  refine lv_aload_n hx hb dL_law_1061 rfl (lv_at hl 3 rfl) ?_
  refine lv_iload_n hx hb dL_law_1062 rfl (lv_at hl 0 rfl) ?_
  refine lv_iconst (v := 1) hx hb dL_law_1063 (by decide) ?_
  refine lv_iadd hx hb dL_law_1064 ?_
  refine lv_cg (y := nI (5 * k + 1)) (by rw [show (1 : Int32) = nI 1 from rfl]; exact nI_add _ _) ?_
  refine va_sld hx hb hX hbl hbA hS (vp_in_nI (by omega) (by omega)) dL_law_1065 ?_
  refine lv_cg (y := xs (5 * k + 1)) (by rw [nI_clamp (by omega)]) ?_
  refine lv_aload_n hx hb dL_law_1066 rfl (lv_at hl 3 rfl) ?_
  refine lv_iload_n hx hb dL_law_1067 rfl (lv_at hl 0 rfl) ?_
  refine lv_iconst (v := 2) hx hb dL_law_1068 (by decide) ?_
  refine lv_iadd hx hb dL_law_1069 ?_
  refine lv_cg (y := nI (5 * k + 2)) (by rw [show (2 : Int32) = nI 2 from rfl]; exact nI_add _ _) ?_
  refine va_sld hx hb hX hbl hbA hS (vp_in_nI (by omega) (by omega)) dL_law_1070 ?_
  refine lv_cg (y := xs (5 * k + 2)) (by rw [nI_clamp (by omega)]) ?_
  refine va_calli (va_runV (As := [.int (xs (5 * k + 1)), .int (xs (5 * k + 2))]) (rest := []) ⟨hx, hb, hml, hown, hg⟩ (k_X11_markE l dC dI G _ ax hi T Y fa N B N1 B1 N2 B2 K S M E Z (xs (5 * k + 1)) (xs (5 * k + 2))) (kwV hg mfX11_mark wt_1208 ⟨Nat.le_of_ble_eq_true rfl, Nat.le_of_ble_eq_true rfl⟩) (preVI hK hMI (hMI.recv hK)) rfl rfl hl.1 rfl (lv_room (Nat.le_of_ble_eq_true rfl)) dL_law_1071 ⟨Nat.le_of_ble_eq_true rfl, Nat.le_of_ble_eq_true rfl⟩) hS (fun q _ h => ad_A hAx hA (by decide) hS q h) (ad_A hAx hA (by decide) hS) (fun r2 u2 t2 H2 locs2 ht2 hv2 w2 hB2 hz2 hk2 hS => ?_)
  have hXI := hXI.kept (fr_ad (lo := 112) (hi := 129) hi (by decide) (by decide) (by decide) hk2)
  have hMI : X11I dC dI G ax T Y fa N B N1 B1 N2 B2 K S (if ((0 ≤ (xs (5 * k + 1)).toInt ∧ (xs (5 * k + 1)).toInt < ((N : Nat) : Int)) ∧ 0 ≤ (xs (5 * k + 2)).toInt ∧ (xs (5 * k + 2)).toInt ≤ 9) ∧ M < 6 then M + 1 else M) E Z H2 := by rw [← ht2]; exact hB2
  refine W.widen (k := 129) (n := 4562) (by omega) (by omega) ?_
  refine lv_pop hx hb dL_law_1074 rfl ?_
  refine lv_goto (tgt := 1381) hx hb dL_law_1075 (by decide) ?_
  exact kk _ _ ⟨_, _, _, _, _, _, _, _, _, _, _, _, _, _, hXI, hMI⟩ hS

set_option maxHeartbeats 1000000 in
set_option maxRecDepth 100000 in
theorem lc_wipe {p : Program} {l : Launch} {e : Env} {s : State} {m : MethodId} {below : List Frame} {meth : Method} {c : Code} {b L : Nat} {xs : Nat → Int32} {dC : Nat → ClassId} {dI : Nat → Nat → Nat} {G : Nat → ClassId} {ax adK adV : Nat → Nat} {A : Nat → Prop} {Q : State → Prop} (C1 : lw_C p s m c b L xs dC dI G ax adK adV A) {k : Nat} (hk : 5 * k + 5 ≤ L) (hL : L ≤ 2560) {H : Heap} {locs : List Loc} {ls : Array Slot} (hI : LI dC dI G ax H) (hS : va_S A s.heap H locs) (hl : lv_has ls 4 [(3, .int (nI (5 * k))), (2, .ref (ax 112)), (1, .ref (ax 0)), (0, .ref b)]) (kk : ∀ (H : Heap) (locs : List Loc), LI dC dI G ax H → va_S A s.heap H locs → W p l e room_1 s m #[Value.ref b] below meth c H locs 129 4562 Q (F0 m 1381 ls [])) : W p l e room_1 s m #[Value.ref b] below meth c H locs 129 4562 Q (F0 m 1078 ls []) := by
  obtain ⟨hx, hb, hml, hown, hg, hX, hbl, hbA, hK, hi, hAx, hA, hSS⟩ := C1
  obtain ⟨T, Y, fa, N, B, N1, B1, N2, B2, K, S, M, E, Z, hXI, hMI⟩ := hI
  refine lv_aload_n hx hb dL_law_1078 rfl (lv_at hl 2 rfl) ?_
  refine lv_aload_n hx hb dL_law_1079 rfl (lv_at hl 3 rfl) ?_
  refine lv_iload_n hx hb dL_law_1080 rfl (lv_at hl 0 rfl) ?_
  refine lv_iconst (v := 1) hx hb dL_law_1081 (by decide) ?_
  refine lv_iadd hx hb dL_law_1082 ?_
  refine lv_cg (y := nI (5 * k + 1)) (by rw [show (1 : Int32) = nI 1 from rfl]; exact nI_add _ _) ?_
  refine va_sld hx hb hX hbl hbA hS (vp_in_nI (by omega) (by omega)) dL_law_1083 ?_
  refine lv_cg (y := xs (5 * k + 1)) (by rw [nI_clamp (by omega)]) ?_
  refine va_calli (va_runV (As := [.int (xs (5 * k + 1))]) (rest := []) ⟨hx, hb, hml, hown, hg⟩ (k_X10_wipeE l dC dI G _ ax hi T Y fa N B N1 B1 N2 B2 K S M E Z (xs (5 * k + 1))) (kwV hg mfX10_wipe wt_759 ⟨Nat.le_of_ble_eq_true rfl, Nat.le_of_ble_eq_true rfl⟩) (preVI hK hXI (hXI.recv hK)) rfl rfl hl.1 rfl (lv_room (Nat.le_of_ble_eq_true rfl)) dL_law_1084 ⟨Nat.le_of_ble_eq_true rfl, Nat.le_of_ble_eq_true rfl⟩) hS (fun q _ h => ad_A hAx hA (by decide) hS q h) (ad_A hAx hA (by decide) hS) (fun r1 u1 t1 H1 locs1 ht1 hv1 w1 hB1 hz1 hk1 hS => ?_)
  have hMI := hMI.kept (fr_ad (lo := 0) (hi := 112) hi (by decide) (by decide) (by decide) hk1)
  have hXI : X10I dC dI G ax T Y fa N B N1 B1 N2 B2 K S (if 0 ≤ (xs (5 * k + 1)).toInt ∧ (xs (5 * k + 1)).toInt ≤ ((M : Nat) : Int) then (xs (5 * k + 1)).toNatClampNeg else M) E Z H1 := by rw [← ht1]; exact hB1
  refine W.widen (k := 129) (n := 4562) (by omega) (by omega) ?_
  refine lv_pop hx hb dL_law_1087 rfl ?_
  refine lv_aload_n hx hb dL_law_1088 rfl (lv_at hl 1 rfl) ?_
  refine lv_aload_n hx hb dL_law_1089 rfl (lv_at hl 3 rfl) ?_
  refine lv_iload_n hx hb dL_law_1090 rfl (lv_at hl 0 rfl) ?_
  refine lv_iconst (v := 1) hx hb dL_law_1091 (by decide) ?_
  refine lv_iadd hx hb dL_law_1092 ?_
  refine lv_cg (y := nI (5 * k + 1)) (by rw [show (1 : Int32) = nI 1 from rfl]; exact nI_add _ _) ?_
  refine va_sld hx hb hX hbl hbA hS (vp_in_nI (by omega) (by omega)) dL_law_1093 ?_
  refine lv_cg (y := xs (5 * k + 1)) (by rw [nI_clamp (by omega)]) ?_
  refine va_calli (va_runV (As := [.int (xs (5 * k + 1))]) (rest := []) ⟨hx, hb, hml, hown, hg⟩ (k_X11_wipeE l dC dI G _ ax hi T Y fa N B N1 B1 N2 B2 K S M E Z (xs (5 * k + 1))) (kwV hg mfX11_wipe wt_1212 ⟨Nat.le_of_ble_eq_true rfl, Nat.le_of_ble_eq_true rfl⟩) (preVI hK hMI (hMI.recv hK)) rfl rfl hl.1 rfl (lv_room (Nat.le_of_ble_eq_true rfl)) dL_law_1094 ⟨Nat.le_of_ble_eq_true rfl, Nat.le_of_ble_eq_true rfl⟩) hS (fun q _ h => ad_A hAx hA (by decide) hS q h) (ad_A hAx hA (by decide) hS) (fun r2 u2 t2 H2 locs2 ht2 hv2 w2 hB2 hz2 hk2 hS => ?_)
  have hXI := hXI.kept (fr_ad (lo := 112) (hi := 129) hi (by decide) (by decide) (by decide) hk2)
  have hMI : X11I dC dI G ax T Y fa N B N1 B1 N2 B2 K S (if 0 ≤ (xs (5 * k + 1)).toInt ∧ (xs (5 * k + 1)).toInt ≤ ((M : Nat) : Int) then (xs (5 * k + 1)).toNatClampNeg else M) E Z H2 := by rw [← ht2]; exact hB2
  refine W.widen (k := 129) (n := 4562) (by omega) (by omega) ?_
  refine lv_pop hx hb dL_law_1097 rfl ?_
  refine lv_goto (tgt := 1381) hx hb dL_law_1098 (by decide) ?_
  exact kk _ _ ⟨_, _, _, _, _, _, _, _, _, _, _, _, _, _, hXI, hMI⟩ hS

set_option maxHeartbeats 1000000 in
set_option maxRecDepth 100000 in
theorem lc_paths {p : Program} {l : Launch} {e : Env} {s : State} {m : MethodId} {below : List Frame} {meth : Method} {c : Code} {b L : Nat} {xs : Nat → Int32} {dC : Nat → ClassId} {dI : Nat → Nat → Nat} {G : Nat → ClassId} {ax adK adV : Nat → Nat} {A : Nat → Prop} {Q : State → Prop} (C1 : lw_C p s m c b L xs dC dI G ax adK adV A) {k : Nat} (hk : 5 * k + 5 ≤ L) (hL : L ≤ 2560) {H : Heap} {locs : List Loc} {ls : Array Slot} (hI : LI dC dI G ax H) (hS : va_S A s.heap H locs) (hl : lv_has ls 4 [(3, .int (nI (5 * k))), (2, .ref (ax 112)), (1, .ref (ax 0)), (0, .ref b)]) (kk : ∀ (H : Heap) (locs : List Loc), LI dC dI G ax H → va_S A s.heap H locs → W p l e room_1 s m #[Value.ref b] below meth c H locs 129 4562 Q (F0 m 1381 ls [])) : W p l e room_1 s m #[Value.ref b] below meth c H locs 129 4562 Q (F0 m 1101 ls []) := by
  obtain ⟨hx, hb, hml, hown, hg, hX, hbl, hbA, hK, hi, hAx, hA, hSS⟩ := C1
  obtain ⟨T, Y, fa, N, B, N1, B1, N2, B2, K, S, M, E, Z, hXI, hMI⟩ := hI
  refine lv_aload_n hx hb dL_law_1101 rfl (lv_at hl 2 rfl) ?_
  refine va_calli (va_runV (As := []) (rest := []) ⟨hx, hb, hml, hown, hg⟩ (k_X10_paths l dC dI G _ ax hi T Y fa N B N1 B1 N2 B2 K S M E Z) (kwV hg mfX10_paths wt_763 ⟨Nat.le_of_ble_eq_true rfl, Nat.le_of_ble_eq_true rfl⟩) (preVI hK hXI (hXI.recv hK)) rfl rfl hl.1 rfl (lv_room (Nat.le_of_ble_eq_true rfl)) dL_law_1102 ⟨Nat.le_of_ble_eq_true rfl, Nat.le_of_ble_eq_true rfl⟩) hS (fun q _ h => ad_A hAx hA (by decide) hS q h) (ad_A hAx hA (by decide) hS) (fun r1 u1 t1 H1 locs1 ht1 hv1 w1 hB1 hz1 hk1 hS => ?_)
  have hMI := hMI.kept (fr_ad (lo := 0) (hi := 112) hi (by decide) (by decide) (by decide) hk1)
  have hXI : X10I dC dI G ax T Y fa N B N1 B1 N2 B2 K S M E Z H1 := by rw [← ht1]; exact hB1
  refine W.widen (k := 129) (n := 4562) (by omega) (by omega) ?_
  refine lv_pop hx hb dL_law_1105 rfl ?_
  refine lv_aload_n hx hb dL_law_1106 rfl (lv_at hl 1 rfl) ?_
  refine va_calli (va_runV (As := []) (rest := []) ⟨hx, hb, hml, hown, hg⟩ (k_X11_paths l dC dI G _ ax hi T Y fa N B N1 B1 N2 B2 K S M E Z) (kwV hg mfX11_paths wt_1216 ⟨Nat.le_of_ble_eq_true rfl, Nat.le_of_ble_eq_true rfl⟩) (preVI hK hMI (hMI.recv hK)) rfl rfl hl.1 rfl (lv_room (Nat.le_of_ble_eq_true rfl)) dL_law_1107 ⟨Nat.le_of_ble_eq_true rfl, Nat.le_of_ble_eq_true rfl⟩) hS (fun q _ h => ad_A hAx hA (by decide) hS q h) (ad_A hAx hA (by decide) hS) (fun r2 u2 t2 H2 locs2 ht2 hv2 w2 hB2 hz2 hk2 hS => ?_)
  have hXI := hXI.kept (fr_ad (lo := 112) (hi := 129) hi (by decide) (by decide) (by decide) hk2)
  have hMI : X11I dC dI G ax T Y fa N B N1 B1 N2 B2 K S M E Z H2 := by rw [← ht2]; exact hB2
  refine W.widen (k := 129) (n := 4562) (by omega) (by omega) ?_
  refine lv_pop hx hb dL_law_1110 rfl ?_
  refine lv_goto (tgt := 1381) hx hb dL_law_1111 (by decide) ?_
  exact kk _ _ ⟨_, _, _, _, _, _, _, _, _, _, _, _, _, _, hXI, hMI⟩ hS

set_option maxHeartbeats 1000000 in
set_option maxRecDepth 100000 in
theorem lc_eye {p : Program} {l : Launch} {e : Env} {s : State} {m : MethodId} {below : List Frame} {meth : Method} {c : Code} {b L : Nat} {xs : Nat → Int32} {dC : Nat → ClassId} {dI : Nat → Nat → Nat} {G : Nat → ClassId} {ax adK adV : Nat → Nat} {A : Nat → Prop} {Q : State → Prop} (C1 : lw_C p s m c b L xs dC dI G ax adK adV A) {k : Nat} (hk : 5 * k + 5 ≤ L) (hL : L ≤ 2560) {H : Heap} {locs : List Loc} {ls : Array Slot} (hI : LI dC dI G ax H) (hS : va_S A s.heap H locs) (hl : lv_has ls 4 [(3, .int (nI (5 * k))), (2, .ref (ax 112)), (1, .ref (ax 0)), (0, .ref b)]) (kk : ∀ (H : Heap) (locs : List Loc), LI dC dI G ax H → va_S A s.heap H locs → W p l e room_1 s m #[Value.ref b] below meth c H locs 129 4562 Q (F0 m 1381 ls [])) : W p l e room_1 s m #[Value.ref b] below meth c H locs 129 4562 Q (F0 m 1114 ls []) := by
  obtain ⟨hx, hb, hml, hown, hg, hX, hbl, hbA, hK, hi, hAx, hA, hSS⟩ := C1
  obtain ⟨T, Y, fa, N, B, N1, B1, N2, B2, K, S, M, E, Z, hXI, hMI⟩ := hI
  refine lv_aload_n hx hb dL_law_1114 rfl (lv_at hl 2 rfl) ?_
  refine lv_aload_n hx hb dL_law_1115 rfl (lv_at hl 3 rfl) ?_
  refine lv_iload_n hx hb dL_law_1116 rfl (lv_at hl 0 rfl) ?_
  refine lv_iconst (v := 1) hx hb dL_law_1117 (by decide) ?_
  refine lv_iadd hx hb dL_law_1118 ?_
  refine lv_cg (y := nI (5 * k + 1)) (by rw [show (1 : Int32) = nI 1 from rfl]; exact nI_add _ _) ?_
  refine va_sld hx hb hX hbl hbA hS (vp_in_nI (by omega) (by omega)) dL_law_1119 ?_
  refine lv_cg (y := xs (5 * k + 1)) (by rw [nI_clamp (by omega)]) ?_
  refine va_calli (va_runV (As := [.int (xs (5 * k + 1))]) (rest := []) ⟨hx, hb, hml, hown, hg⟩ (k_X10_eye l dC dI G _ ax hi T Y fa N B N1 B1 N2 B2 K S M E Z (xs (5 * k + 1))) (kwV hg mfX10_eye wt_788 ⟨Nat.le_of_ble_eq_true rfl, Nat.le_of_ble_eq_true rfl⟩) (preVI hK hXI (hXI.recv hK)) rfl rfl hl.1 rfl (lv_room (Nat.le_of_ble_eq_true rfl)) dL_law_1120 ⟨Nat.le_of_ble_eq_true rfl, Nat.le_of_ble_eq_true rfl⟩) hS (fun q _ h => ad_A hAx hA (by decide) hS q h) (ad_A hAx hA (by decide) hS) (fun r1 u1 t1 H1 locs1 ht1 hv1 w1 hB1 hz1 hk1 hS => ?_)
  have hMI := hMI.kept (fr_ad (lo := 0) (hi := 112) hi (by decide) (by decide) (by decide) hk1)
  have hXI : X10I dC dI G ax T Y fa N B N1 B1 N2 B2 K S M E Z H1 := by rw [← ht1]; exact hB1
  refine W.widen (k := 129) (n := 4562) (by omega) (by omega) ?_
  refine lv_pop hx hb dL_law_1123 rfl ?_
  refine lv_aload_n hx hb dL_law_1124 rfl (lv_at hl 1 rfl) ?_
  refine lv_aload_n hx hb dL_law_1125 rfl (lv_at hl 3 rfl) ?_
  refine lv_iload_n hx hb dL_law_1126 rfl (lv_at hl 0 rfl) ?_
  refine lv_iconst (v := 1) hx hb dL_law_1127 (by decide) ?_
  refine lv_iadd hx hb dL_law_1128 ?_
  refine lv_cg (y := nI (5 * k + 1)) (by rw [show (1 : Int32) = nI 1 from rfl]; exact nI_add _ _) ?_
  refine va_sld hx hb hX hbl hbA hS (vp_in_nI (by omega) (by omega)) dL_law_1129 ?_
  refine lv_cg (y := xs (5 * k + 1)) (by rw [nI_clamp (by omega)]) ?_
  refine va_calli (va_runV (As := [.int (xs (5 * k + 1))]) (rest := []) ⟨hx, hb, hml, hown, hg⟩ (k_X11_eye l dC dI G _ ax hi T Y fa N B N1 B1 N2 B2 K S M E Z (xs (5 * k + 1))) (kwV hg mfX11_eye wt_1236 ⟨Nat.le_of_ble_eq_true rfl, Nat.le_of_ble_eq_true rfl⟩) (preVI hK hMI (hMI.recv hK)) rfl rfl hl.1 rfl (lv_room (Nat.le_of_ble_eq_true rfl)) dL_law_1130 ⟨Nat.le_of_ble_eq_true rfl, Nat.le_of_ble_eq_true rfl⟩) hS (fun q _ h => ad_A hAx hA (by decide) hS q h) (ad_A hAx hA (by decide) hS) (fun r2 u2 t2 H2 locs2 ht2 hv2 w2 hB2 hz2 hk2 hS => ?_)
  have hXI := hXI.kept (fr_ad (lo := 112) (hi := 129) hi (by decide) (by decide) (by decide) hk2)
  have hMI : X11I dC dI G ax T Y fa N B N1 B1 N2 B2 K S M E Z H2 := by rw [← ht2]; exact hB2
  refine W.widen (k := 129) (n := 4562) (by omega) (by omega) ?_
  refine lv_pop hx hb dL_law_1133 rfl ?_
  refine lv_goto (tgt := 1381) hx hb dL_law_1134 (by decide) ?_
  exact kk _ _ ⟨_, _, _, _, _, _, _, _, _, _, _, _, _, _, hXI, hMI⟩ hS

set_option maxHeartbeats 1000000 in
set_option maxRecDepth 100000 in
theorem lc_sure {p : Program} {l : Launch} {e : Env} {s : State} {m : MethodId} {below : List Frame} {meth : Method} {c : Code} {b L : Nat} {xs : Nat → Int32} {dC : Nat → ClassId} {dI : Nat → Nat → Nat} {G : Nat → ClassId} {ax adK adV : Nat → Nat} {A : Nat → Prop} {Q : State → Prop} (C1 : lw_C p s m c b L xs dC dI G ax adK adV A) {k : Nat} (hk : 5 * k + 5 ≤ L) (hL : L ≤ 2560) {H : Heap} {locs : List Loc} {ls : Array Slot} (hI : LI dC dI G ax H) (hS : va_S A s.heap H locs) (hl : lv_has ls 4 [(3, .int (nI (5 * k))), (2, .ref (ax 112)), (1, .ref (ax 0)), (0, .ref b)]) (kk : ∀ (H : Heap) (locs : List Loc), LI dC dI G ax H → va_S A s.heap H locs → W p l e room_1 s m #[Value.ref b] below meth c H locs 129 4562 Q (F0 m 1381 ls [])) : W p l e room_1 s m #[Value.ref b] below meth c H locs 129 4562 Q (F0 m 1137 ls []) := by
  obtain ⟨hx, hb, hml, hown, hg, hX, hbl, hbA, hK, hi, hAx, hA, hSS⟩ := C1
  obtain ⟨T, Y, fa, N, B, N1, B1, N2, B2, K, S, M, E, Z, hXI, hMI⟩ := hI
  refine lv_aload_n hx hb dL_law_1137 rfl (lv_at hl 2 rfl) ?_
  refine lv_aload_n hx hb dL_law_1138 rfl (lv_at hl 3 rfl) ?_
  refine lv_iload_n hx hb dL_law_1139 rfl (lv_at hl 0 rfl) ?_
  refine lv_iconst (v := 1) hx hb dL_law_1140 (by decide) ?_
  refine lv_iadd hx hb dL_law_1141 ?_
  refine lv_cg (y := nI (5 * k + 1)) (by rw [show (1 : Int32) = nI 1 from rfl]; exact nI_add _ _) ?_
  refine va_sld hx hb hX hbl hbA hS (vp_in_nI (by omega) (by omega)) dL_law_1142 ?_
  refine lv_cg (y := xs (5 * k + 1)) (by rw [nI_clamp (by omega)]) ?_
  refine va_calli (va_runV (As := [.int (xs (5 * k + 1))]) (rest := []) ⟨hx, hb, hml, hown, hg⟩ (k_X10_sure l dC dI G _ ax hi T Y fa N B N1 B1 N2 B2 K S M E Z (xs (5 * k + 1))) (kwV hg mfX10_sure wt_796 ⟨Nat.le_of_ble_eq_true rfl, Nat.le_of_ble_eq_true rfl⟩) (preVI hK hXI (hXI.recv hK)) rfl rfl hl.1 rfl (lv_room (Nat.le_of_ble_eq_true rfl)) dL_law_1143 ⟨Nat.le_of_ble_eq_true rfl, Nat.le_of_ble_eq_true rfl⟩) hS (fun q _ h => ad_A hAx hA (by decide) hS q h) (ad_A hAx hA (by decide) hS) (fun r1 u1 t1 H1 locs1 ht1 hv1 w1 hB1 hz1 hk1 hS => ?_)
  have hMI := hMI.kept (fr_ad (lo := 0) (hi := 112) hi (by decide) (by decide) (by decide) hk1)
  have hXI : X10I dC dI G ax T Y fa N B N1 B1 N2 B2 K S M E Z H1 := by rw [← ht1]; exact hB1
  refine W.widen (k := 129) (n := 4562) (by omega) (by omega) ?_
  refine lv_pop hx hb dL_law_1146 rfl ?_
  refine lv_aload_n hx hb dL_law_1147 rfl (lv_at hl 1 rfl) ?_
  refine lv_aload_n hx hb dL_law_1148 rfl (lv_at hl 3 rfl) ?_
  refine lv_iload_n hx hb dL_law_1149 rfl (lv_at hl 0 rfl) ?_
  refine lv_iconst (v := 1) hx hb dL_law_1150 (by decide) ?_
  refine lv_iadd hx hb dL_law_1151 ?_
  refine lv_cg (y := nI (5 * k + 1)) (by rw [show (1 : Int32) = nI 1 from rfl]; exact nI_add _ _) ?_
  refine va_sld hx hb hX hbl hbA hS (vp_in_nI (by omega) (by omega)) dL_law_1152 ?_
  refine lv_cg (y := xs (5 * k + 1)) (by rw [nI_clamp (by omega)]) ?_
  refine va_calli (va_runV (As := [.int (xs (5 * k + 1))]) (rest := []) ⟨hx, hb, hml, hown, hg⟩ (k_X11_sure l dC dI G _ ax hi T Y fa N B N1 B1 N2 B2 K S M E Z (xs (5 * k + 1))) (kwV hg mfX11_sure wt_1240 ⟨Nat.le_of_ble_eq_true rfl, Nat.le_of_ble_eq_true rfl⟩) (preVI hK hMI (hMI.recv hK)) rfl rfl hl.1 rfl (lv_room (Nat.le_of_ble_eq_true rfl)) dL_law_1153 ⟨Nat.le_of_ble_eq_true rfl, Nat.le_of_ble_eq_true rfl⟩) hS (fun q _ h => ad_A hAx hA (by decide) hS q h) (ad_A hAx hA (by decide) hS) (fun r2 u2 t2 H2 locs2 ht2 hv2 w2 hB2 hz2 hk2 hS => ?_)
  have hXI := hXI.kept (fr_ad (lo := 112) (hi := 129) hi (by decide) (by decide) (by decide) hk2)
  have hMI : X11I dC dI G ax T Y fa N B N1 B1 N2 B2 K S M E Z H2 := by rw [← ht2]; exact hB2
  refine W.widen (k := 129) (n := 4562) (by omega) (by omega) ?_
  refine lv_pop hx hb dL_law_1156 rfl ?_
  refine lv_goto (tgt := 1381) hx hb dL_law_1157 (by decide) ?_
  exact kk _ _ ⟨_, _, _, _, _, _, _, _, _, _, _, _, _, _, hXI, hMI⟩ hS

set_option maxHeartbeats 1000000 in
set_option maxRecDepth 100000 in
theorem lc_keep {p : Program} {l : Launch} {e : Env} {s : State} {m : MethodId} {below : List Frame} {meth : Method} {c : Code} {b L : Nat} {xs : Nat → Int32} {dC : Nat → ClassId} {dI : Nat → Nat → Nat} {G : Nat → ClassId} {ax adK adV : Nat → Nat} {A : Nat → Prop} {Q : State → Prop} (C1 : lw_C p s m c b L xs dC dI G ax adK adV A) {k : Nat} (hk : 5 * k + 5 ≤ L) (hL : L ≤ 2560) {H : Heap} {locs : List Loc} {ls : Array Slot} (hI : LI dC dI G ax H) (hS : va_S A s.heap H locs) (hl : lv_has ls 4 [(3, .int (nI (5 * k))), (2, .ref (ax 112)), (1, .ref (ax 0)), (0, .ref b)]) (kk : ∀ (H : Heap) (locs : List Loc), LI dC dI G ax H → va_S A s.heap H locs → W p l e room_1 s m #[Value.ref b] below meth c H locs 129 4562 Q (F0 m 1381 ls [])) : W p l e room_1 s m #[Value.ref b] below meth c H locs 129 4562 Q (F0 m 1160 ls []) := by
  obtain ⟨hx, hb, hml, hown, hg, hX, hbl, hbA, hK, hi, hAx, hA, hSS⟩ := C1
  obtain ⟨T, Y, fa, N, B, N1, B1, N2, B2, K, S, M, E, Z, hXI, hMI⟩ := hI
  refine lv_aload_n hx hb dL_law_1160 rfl (lv_at hl 2 rfl) ?_
  refine lv_aload_n hx hb dL_law_1161 rfl (lv_at hl 3 rfl) ?_
  refine lv_iload_n hx hb dL_law_1162 rfl (lv_at hl 0 rfl) ?_
  refine lv_iconst (v := 1) hx hb dL_law_1163 (by decide) ?_
  refine lv_iadd hx hb dL_law_1164 ?_
  refine lv_cg (y := nI (5 * k + 1)) (by rw [show (1 : Int32) = nI 1 from rfl]; exact nI_add _ _) ?_
  refine va_sld hx hb hX hbl hbA hS (vp_in_nI (by omega) (by omega)) dL_law_1165 ?_
  refine lv_cg (y := xs (5 * k + 1)) (by rw [nI_clamp (by omega)]) ?_
  refine va_calli (va_runV (As := [.int (xs (5 * k + 1))]) (rest := []) ⟨hx, hb, hml, hown, hg⟩ (k_X10_keepE l dC dI G _ ax hi T Y fa N B N1 B1 N2 B2 K S M E Z (xs (5 * k + 1))) (kwV hg mfX10_keep wt_808 ⟨Nat.le_of_ble_eq_true rfl, Nat.le_of_ble_eq_true rfl⟩) (preVI hK hXI (hXI.recv hK)) rfl rfl hl.1 rfl (lv_room (Nat.le_of_ble_eq_true rfl)) dL_law_1166 ⟨Nat.le_of_ble_eq_true rfl, Nat.le_of_ble_eq_true rfl⟩) hS (fun q _ h => ad_A hAx hA (by decide) hS q h) (ad_A hAx hA (by decide) hS) (fun r1 u1 t1 H1 locs1 ht1 hv1 w1 hB1 hz1 hk1 hS => ?_)
  have hMI := hMI.kept (fr_ad (lo := 0) (hi := 112) hi (by decide) (by decide) (by decide) hk1)
  have hXI : X10I dC dI G ax T Y fa N B (if (xs (5 * k + 1)) = 0 then N else N1) (if (xs (5 * k + 1)) = 0 then B else B1) (if (xs (5 * k + 1)) = 1 then N else N2) (if (xs (5 * k + 1)) = 1 then B else B2) (if (0 ≤ (xs (5 * k + 1)).toInt ∧ (xs (5 * k + 1)).toInt < 2) then upd K (xs (5 * k + 1)).toNatClampNeg 1 else K) S M E Z H1 := by rw [← ht1]; exact hB1
  refine W.widen (k := 129) (n := 4562) (by omega) (by omega) ?_
  refine lv_pop hx hb dL_law_1169 rfl ?_
  refine lv_aload_n hx hb dL_law_1170 rfl (lv_at hl 1 rfl) ?_
  refine lv_aload_n hx hb dL_law_1171 rfl (lv_at hl 3 rfl) ?_
  refine lv_iload_n hx hb dL_law_1172 rfl (lv_at hl 0 rfl) ?_
  refine lv_iconst (v := 1) hx hb dL_law_1173 (by decide) ?_
  refine lv_iadd hx hb dL_law_1174 ?_
  refine lv_cg (y := nI (5 * k + 1)) (by rw [show (1 : Int32) = nI 1 from rfl]; exact nI_add _ _) ?_
  refine va_sld hx hb hX hbl hbA hS (vp_in_nI (by omega) (by omega)) dL_law_1175 ?_
  refine lv_cg (y := xs (5 * k + 1)) (by rw [nI_clamp (by omega)]) ?_
  refine va_calli (va_runV (As := [.int (xs (5 * k + 1))]) (rest := []) ⟨hx, hb, hml, hown, hg⟩ (k_X11_keepE l dC dI G _ ax hi T Y fa N B N1 B1 N2 B2 K S M E Z (xs (5 * k + 1))) (kwV hg mfX11_keep wt_1244 ⟨Nat.le_of_ble_eq_true rfl, Nat.le_of_ble_eq_true rfl⟩) (preVI hK hMI (hMI.recv hK)) rfl rfl hl.1 rfl (lv_room (Nat.le_of_ble_eq_true rfl)) dL_law_1176 ⟨Nat.le_of_ble_eq_true rfl, Nat.le_of_ble_eq_true rfl⟩) hS (fun q _ h => ad_A hAx hA (by decide) hS q h) (ad_A hAx hA (by decide) hS) (fun r2 u2 t2 H2 locs2 ht2 hv2 w2 hB2 hz2 hk2 hS => ?_)
  have hXI := hXI.kept (fr_ad (lo := 112) (hi := 129) hi (by decide) (by decide) (by decide) hk2)
  have hMI : X11I dC dI G ax T Y fa N B (if (xs (5 * k + 1)) = 0 then N else N1) (if (xs (5 * k + 1)) = 0 then B else B1) (if (xs (5 * k + 1)) = 1 then N else N2) (if (xs (5 * k + 1)) = 1 then B else B2) (if (0 ≤ (xs (5 * k + 1)).toInt ∧ (xs (5 * k + 1)).toInt < 2) then upd K (xs (5 * k + 1)).toNatClampNeg 1 else K) S M E Z H2 := by rw [← ht2]; exact hB2
  refine W.widen (k := 129) (n := 4562) (by omega) (by omega) ?_
  refine lv_pop hx hb dL_law_1179 rfl ?_
  refine lv_goto (tgt := 1381) hx hb dL_law_1180 (by decide) ?_
  exact kk _ _ ⟨_, _, _, _, _, _, _, _, _, _, _, _, _, _, hXI, hMI⟩ hS

set_option maxHeartbeats 1000000 in
set_option maxRecDepth 100000 in
theorem lc_back {p : Program} {l : Launch} {e : Env} {s : State} {m : MethodId} {below : List Frame} {meth : Method} {c : Code} {b L : Nat} {xs : Nat → Int32} {dC : Nat → ClassId} {dI : Nat → Nat → Nat} {G : Nat → ClassId} {ax adK adV : Nat → Nat} {A : Nat → Prop} {Q : State → Prop} (C1 : lw_C p s m c b L xs dC dI G ax adK adV A) {k : Nat} (hk : 5 * k + 5 ≤ L) (hL : L ≤ 2560) {H : Heap} {locs : List Loc} {ls : Array Slot} (hI : LI dC dI G ax H) (hS : va_S A s.heap H locs) (hl : lv_has ls 4 [(3, .int (nI (5 * k))), (2, .ref (ax 112)), (1, .ref (ax 0)), (0, .ref b)]) (kk : ∀ (H : Heap) (locs : List Loc), LI dC dI G ax H → va_S A s.heap H locs → W p l e room_1 s m #[Value.ref b] below meth c H locs 129 4562 Q (F0 m 1381 ls [])) : W p l e room_1 s m #[Value.ref b] below meth c H locs 129 4562 Q (F0 m 1183 ls []) := by
  obtain ⟨hx, hb, hml, hown, hg, hX, hbl, hbA, hK, hi, hAx, hA, hSS⟩ := C1
  obtain ⟨T, Y, fa, N, B, N1, B1, N2, B2, K, S, M, E, Z, hXI, hMI⟩ := hI
  refine lv_aload_n hx hb dL_law_1183 rfl (lv_at hl 2 rfl) ?_
  refine lv_aload_n hx hb dL_law_1184 rfl (lv_at hl 3 rfl) ?_
  refine lv_iload_n hx hb dL_law_1185 rfl (lv_at hl 0 rfl) ?_
  refine lv_iconst (v := 1) hx hb dL_law_1186 (by decide) ?_
  refine lv_iadd hx hb dL_law_1187 ?_
  refine lv_cg (y := nI (5 * k + 1)) (by rw [show (1 : Int32) = nI 1 from rfl]; exact nI_add _ _) ?_
  refine va_sld hx hb hX hbl hbA hS (vp_in_nI (by omega) (by omega)) dL_law_1188 ?_
  refine lv_cg (y := xs (5 * k + 1)) (by rw [nI_clamp (by omega)]) ?_
  refine va_calli (va_runV (As := [.int (xs (5 * k + 1))]) (rest := []) ⟨hx, hb, hml, hown, hg⟩ (k_X10_backE l dC dI G _ ax hi T Y fa N B N1 B1 N2 B2 K S M E Z (xs (5 * k + 1))) (kwV hg mfX10_back wt_815 ⟨Nat.le_of_ble_eq_true rfl, Nat.le_of_ble_eq_true rfl⟩) (preVI hK hXI (hXI.recv hK)) rfl rfl hl.1 rfl (lv_room (Nat.le_of_ble_eq_true rfl)) dL_law_1189 ⟨Nat.le_of_ble_eq_true rfl, Nat.le_of_ble_eq_true rfl⟩) hS (fun q _ h => ad_A hAx hA (by decide) hS q h) (ad_A hAx hA (by decide) hS) (fun r1 u1 t1 H1 locs1 ht1 hv1 w1 hB1 hz1 hk1 hS => ?_)
  have hMI := hMI.kept (fr_ad (lo := 0) (hi := 112) hi (by decide) (by decide) (by decide) hk1)
  have hXI : X10I dC dI G ax T Y fa N B N1 B1 N2 B2 K S M E Z H1 := by rw [← ht1]; exact hB1
  refine W.widen (k := 129) (n := 4562) (by omega) (by omega) ?_
  refine lv_pop hx hb dL_law_1192 rfl ?_
  refine lv_aload_n hx hb dL_law_1193 rfl (lv_at hl 1 rfl) ?_
  refine lv_aload_n hx hb dL_law_1194 rfl (lv_at hl 3 rfl) ?_
  refine lv_iload_n hx hb dL_law_1195 rfl (lv_at hl 0 rfl) ?_
  refine lv_iconst (v := 1) hx hb dL_law_1196 (by decide) ?_
  refine lv_iadd hx hb dL_law_1197 ?_
  refine lv_cg (y := nI (5 * k + 1)) (by rw [show (1 : Int32) = nI 1 from rfl]; exact nI_add _ _) ?_
  refine va_sld hx hb hX hbl hbA hS (vp_in_nI (by omega) (by omega)) dL_law_1198 ?_
  refine lv_cg (y := xs (5 * k + 1)) (by rw [nI_clamp (by omega)]) ?_
  refine va_calli (va_runV (As := [.int (xs (5 * k + 1))]) (rest := []) ⟨hx, hb, hml, hown, hg⟩ (k_X11_backE l dC dI G _ ax hi T Y fa N B N1 B1 N2 B2 K S M E Z (xs (5 * k + 1))) (kwV hg mfX11_back wt_1252 ⟨Nat.le_of_ble_eq_true rfl, Nat.le_of_ble_eq_true rfl⟩) (preVI hK hMI (hMI.recv hK)) rfl rfl hl.1 rfl (lv_room (Nat.le_of_ble_eq_true rfl)) dL_law_1199 ⟨Nat.le_of_ble_eq_true rfl, Nat.le_of_ble_eq_true rfl⟩) hS (fun q _ h => ad_A hAx hA (by decide) hS q h) (ad_A hAx hA (by decide) hS) (fun r2 u2 t2 H2 locs2 ht2 hv2 w2 hB2 hz2 hk2 hS => ?_)
  have hXI := hXI.kept (fr_ad (lo := 112) (hi := 129) hi (by decide) (by decide) (by decide) hk2)
  have hMI : X11I dC dI G ax T Y fa N B N1 B1 N2 B2 K S M E Z H2 := by rw [← ht2]; exact hB2
  refine W.widen (k := 129) (n := 4562) (by omega) (by omega) ?_
  refine lv_pop hx hb dL_law_1202 rfl ?_
  refine lv_goto (tgt := 1381) hx hb dL_law_1203 (by decide) ?_
  exact kk _ _ ⟨_, _, _, _, _, _, _, _, _, _, _, _, _, _, hXI, hMI⟩ hS

set_option maxHeartbeats 1000000 in
set_option maxRecDepth 100000 in
theorem lc_sheet {p : Program} {l : Launch} {e : Env} {s : State} {m : MethodId} {below : List Frame} {meth : Method} {c : Code} {b L : Nat} {xs : Nat → Int32} {dC : Nat → ClassId} {dI : Nat → Nat → Nat} {G : Nat → ClassId} {ax adK adV : Nat → Nat} {A : Nat → Prop} {Q : State → Prop} (C1 : lw_C p s m c b L xs dC dI G ax adK adV A) {k : Nat} (hk : 5 * k + 5 ≤ L) (hL : L ≤ 2560) {H : Heap} {locs : List Loc} {ls : Array Slot} (hI : LI dC dI G ax H) (hS : va_S A s.heap H locs) (hl : lv_has ls 4 [(3, .int (nI (5 * k))), (2, .ref (ax 112)), (1, .ref (ax 0)), (0, .ref b)]) (kk : ∀ (H : Heap) (locs : List Loc), LI dC dI G ax H → va_S A s.heap H locs → W p l e room_1 s m #[Value.ref b] below meth c H locs 129 4562 Q (F0 m 1381 ls [])) : W p l e room_1 s m #[Value.ref b] below meth c H locs 129 4562 Q (F0 m 1206 ls []) := by
  obtain ⟨hx, hb, hml, hown, hg, hX, hbl, hbA, hK, hi, hAx, hA, hSS⟩ := C1
  obtain ⟨T, Y, fa, N, B, N1, B1, N2, B2, K, S, M, E, Z, hXI, hMI⟩ := hI
  refine lv_aload_n hx hb dL_law_1206 rfl (lv_at hl 2 rfl) ?_
  refine lv_aload_n hx hb dL_law_1207 rfl (lv_at hl 3 rfl) ?_
  refine lv_iload_n hx hb dL_law_1208 rfl (lv_at hl 0 rfl) ?_
  refine lv_iconst (v := 1) hx hb dL_law_1209 (by decide) ?_
  refine lv_iadd hx hb dL_law_1210 ?_
  refine lv_cg (y := nI (5 * k + 1)) (by rw [show (1 : Int32) = nI 1 from rfl]; exact nI_add _ _) ?_
  refine va_sld hx hb hX hbl hbA hS (vp_in_nI (by omega) (by omega)) dL_law_1211 ?_
  refine lv_cg (y := xs (5 * k + 1)) (by rw [nI_clamp (by omega)]) ?_
  refine lv_aload_n hx hb dL_law_1212 rfl (lv_at hl 3 rfl) ?_
  refine lv_iload_n hx hb dL_law_1213 rfl (lv_at hl 0 rfl) ?_
  refine lv_iconst (v := 2) hx hb dL_law_1214 (by decide) ?_
  refine lv_iadd hx hb dL_law_1215 ?_
  refine lv_cg (y := nI (5 * k + 2)) (by rw [show (2 : Int32) = nI 2 from rfl]; exact nI_add _ _) ?_
  refine va_sld hx hb hX hbl hbA hS (vp_in_nI (by omega) (by omega)) dL_law_1216 ?_
  refine lv_cg (y := xs (5 * k + 2)) (by rw [nI_clamp (by omega)]) ?_
  refine lv_aload_n hx hb dL_law_1217 rfl (lv_at hl 3 rfl) ?_
  refine lv_iload_n hx hb dL_law_1218 rfl (lv_at hl 0 rfl) ?_
  refine lv_iconst (v := 3) hx hb dL_law_1219 (by decide) ?_
  refine lv_iadd hx hb dL_law_1220 ?_
  refine lv_cg (y := nI (5 * k + 3)) (by rw [show (3 : Int32) = nI 3 from rfl]; exact nI_add _ _) ?_
  refine va_sld hx hb hX hbl hbA hS (vp_in_nI (by omega) (by omega)) dL_law_1221 ?_
  refine lv_cg (y := xs (5 * k + 3)) (by rw [nI_clamp (by omega)]) ?_
  refine va_calli (va_runV (As := [.int (xs (5 * k + 1)), .int (xs (5 * k + 2)), .int (xs (5 * k + 3))]) (rest := []) ⟨hx, hb, hml, hown, hg⟩ (k_X10_sheet l dC dI G _ ax hi T Y fa N B N1 B1 N2 B2 K S M E Z (xs (5 * k + 1)) (xs (5 * k + 2)) (xs (5 * k + 3))) (kwV hg mfX10_sheet wt_819 ⟨Nat.le_of_ble_eq_true rfl, Nat.le_of_ble_eq_true rfl⟩) (preVI hK hXI (hXI.recv hK)) rfl rfl hl.1 rfl (lv_room (Nat.le_of_ble_eq_true rfl)) dL_law_1222 ⟨Nat.le_of_ble_eq_true rfl, Nat.le_of_ble_eq_true rfl⟩) hS (fun q _ h => ad_A hAx hA (by decide) hS q h) (ad_A hAx hA (by decide) hS) (fun r1 u1 t1 H1 locs1 ht1 hv1 w1 hB1 hz1 hk1 hS => ?_)
  have hMI := hMI.kept (fr_ad (lo := 0) (hi := 112) hi (by decide) (by decide) (by decide) hk1)
  have hXI : X10I dC dI G ax T Y fa N B N1 B1 N2 B2 K S M (if ((0 ≤ (xs (5 * k + 1)).toInt ∧ (xs (5 * k + 1)).toInt < 4) ∧ (0 ≤ (xs (5 * k + 2)).toInt ∧ (xs (5 * k + 2)).toInt ≤ 2) ∧ (xs (5 * k + 3)).toInt ≤ 40 ∧ 0 ≤ (xs (5 * k + 3)).toInt) then upd E (xs (5 * k + 1)).toNatClampNeg (xs (5 * k + 2)) else E) (if ((0 ≤ (xs (5 * k + 1)).toInt ∧ (xs (5 * k + 1)).toInt < 4) ∧ (0 ≤ (xs (5 * k + 2)).toInt ∧ (xs (5 * k + 2)).toInt ≤ 2) ∧ (xs (5 * k + 3)).toInt ≤ 40 ∧ 0 ≤ (xs (5 * k + 3)).toInt) then upd Z (xs (5 * k + 1)).toNatClampNeg (xs (5 * k + 3)) else Z) H1 := by rw [← ht1]; exact hB1
  refine W.widen (k := 129) (n := 4562) (by omega) (by omega) ?_
  refine lv_pop hx hb dL_law_1225 rfl ?_
  refine lv_aload_n hx hb dL_law_1226 rfl (lv_at hl 1 rfl) ?_
  refine lv_aload_n hx hb dL_law_1227 rfl (lv_at hl 3 rfl) ?_
  refine lv_iload_n hx hb dL_law_1228 rfl (lv_at hl 0 rfl) ?_
  refine lv_iconst (v := 1) hx hb dL_law_1229 (by decide) ?_
  refine lv_iadd hx hb dL_law_1230 ?_
  refine lv_cg (y := nI (5 * k + 1)) (by rw [show (1 : Int32) = nI 1 from rfl]; exact nI_add _ _) ?_
  refine va_sld hx hb hX hbl hbA hS (vp_in_nI (by omega) (by omega)) dL_law_1231 ?_
  refine lv_cg (y := xs (5 * k + 1)) (by rw [nI_clamp (by omega)]) ?_
  refine lv_aload_n hx hb dL_law_1232 rfl (lv_at hl 3 rfl) ?_
  refine lv_iload_n hx hb dL_law_1233 rfl (lv_at hl 0 rfl) ?_
  refine lv_iconst (v := 2) hx hb dL_law_1234 (by decide) ?_
  refine lv_iadd hx hb dL_law_1235 ?_
  refine lv_cg (y := nI (5 * k + 2)) (by rw [show (2 : Int32) = nI 2 from rfl]; exact nI_add _ _) ?_
  refine va_sld hx hb hX hbl hbA hS (vp_in_nI (by omega) (by omega)) dL_law_1236 ?_
  refine lv_cg (y := xs (5 * k + 2)) (by rw [nI_clamp (by omega)]) ?_
  refine lv_aload_n hx hb dL_law_1237 rfl (lv_at hl 3 rfl) ?_
  refine lv_iload_n hx hb dL_law_1238 rfl (lv_at hl 0 rfl) ?_
  refine lv_iconst (v := 3) hx hb dL_law_1239 (by decide) ?_
  refine lv_iadd hx hb dL_law_1240 ?_
  refine lv_cg (y := nI (5 * k + 3)) (by rw [show (3 : Int32) = nI 3 from rfl]; exact nI_add _ _) ?_
  refine va_sld hx hb hX hbl hbA hS (vp_in_nI (by omega) (by omega)) dL_law_1241 ?_
  refine lv_cg (y := xs (5 * k + 3)) (by rw [nI_clamp (by omega)]) ?_
  refine va_calli (va_runV (As := [.int (xs (5 * k + 1)), .int (xs (5 * k + 2)), .int (xs (5 * k + 3))]) (rest := []) ⟨hx, hb, hml, hown, hg⟩ (k_X11_sheet l dC dI G _ ax hi T Y fa N B N1 B1 N2 B2 K S M E Z (xs (5 * k + 1)) (xs (5 * k + 2)) (xs (5 * k + 3))) (kwV hg mfX11_sheet wt_1256 ⟨Nat.le_of_ble_eq_true rfl, Nat.le_of_ble_eq_true rfl⟩) (preVI hK hMI (hMI.recv hK)) rfl rfl hl.1 rfl (lv_room (Nat.le_of_ble_eq_true rfl)) dL_law_1242 ⟨Nat.le_of_ble_eq_true rfl, Nat.le_of_ble_eq_true rfl⟩) hS (fun q _ h => ad_A hAx hA (by decide) hS q h) (ad_A hAx hA (by decide) hS) (fun r2 u2 t2 H2 locs2 ht2 hv2 w2 hB2 hz2 hk2 hS => ?_)
  have hXI := hXI.kept (fr_ad (lo := 112) (hi := 129) hi (by decide) (by decide) (by decide) hk2)
  have hMI : X11I dC dI G ax T Y fa N B N1 B1 N2 B2 K S M (if ((0 ≤ (xs (5 * k + 1)).toInt ∧ (xs (5 * k + 1)).toInt < 4) ∧ (0 ≤ (xs (5 * k + 2)).toInt ∧ (xs (5 * k + 2)).toInt ≤ 2) ∧ (xs (5 * k + 3)).toInt ≤ 40 ∧ 0 ≤ (xs (5 * k + 3)).toInt) then upd E (xs (5 * k + 1)).toNatClampNeg (xs (5 * k + 2)) else E) (if ((0 ≤ (xs (5 * k + 1)).toInt ∧ (xs (5 * k + 1)).toInt < 4) ∧ (0 ≤ (xs (5 * k + 2)).toInt ∧ (xs (5 * k + 2)).toInt ≤ 2) ∧ (xs (5 * k + 3)).toInt ≤ 40 ∧ 0 ≤ (xs (5 * k + 3)).toInt) then upd Z (xs (5 * k + 1)).toNatClampNeg (xs (5 * k + 3)) else Z) H2 := by rw [← ht2]; exact hB2
  refine W.widen (k := 129) (n := 4562) (by omega) (by omega) ?_
  refine lv_pop hx hb dL_law_1245 rfl ?_
  refine lv_goto (tgt := 1381) hx hb dL_law_1246 (by decide) ?_
  exact kk _ _ ⟨_, _, _, _, _, _, _, _, _, _, _, _, _, _, hXI, hMI⟩ hS

set_option maxHeartbeats 1000000 in
set_option maxRecDepth 100000 in
theorem lc_lay {p : Program} {l : Launch} {e : Env} {s : State} {m : MethodId} {below : List Frame} {meth : Method} {c : Code} {b L : Nat} {xs : Nat → Int32} {dC : Nat → ClassId} {dI : Nat → Nat → Nat} {G : Nat → ClassId} {ax adK adV : Nat → Nat} {A : Nat → Prop} {Q : State → Prop} (C1 : lw_C p s m c b L xs dC dI G ax adK adV A) {k : Nat} (hk : 5 * k + 5 ≤ L) (hL : L ≤ 2560) {H : Heap} {locs : List Loc} {ls : Array Slot} (hI : LI dC dI G ax H) (hS : va_S A s.heap H locs) (hl : lv_has ls 4 [(3, .int (nI (5 * k))), (2, .ref (ax 112)), (1, .ref (ax 0)), (0, .ref b)]) (kk : ∀ (H : Heap) (locs : List Loc), LI dC dI G ax H → va_S A s.heap H locs → W p l e room_1 s m #[Value.ref b] below meth c H locs 129 4562 Q (F0 m 1381 ls [])) : W p l e room_1 s m #[Value.ref b] below meth c H locs 129 4562 Q (F0 m 1249 ls []) := by
  obtain ⟨hx, hb, hml, hown, hg, hX, hbl, hbA, hK, hi, hAx, hA, hSS⟩ := C1
  obtain ⟨T, Y, fa, N, B, N1, B1, N2, B2, K, S, M, E, Z, hXI, hMI⟩ := hI
  refine lv_aload_n hx hb dL_law_1249 rfl (lv_at hl 2 rfl) ?_
  refine lv_aload_n hx hb dL_law_1250 rfl (lv_at hl 3 rfl) ?_
  refine lv_iload_n hx hb dL_law_1251 rfl (lv_at hl 0 rfl) ?_
  refine lv_iconst (v := 1) hx hb dL_law_1252 (by decide) ?_
  refine lv_iadd hx hb dL_law_1253 ?_
  refine lv_cg (y := nI (5 * k + 1)) (by rw [show (1 : Int32) = nI 1 from rfl]; exact nI_add _ _) ?_
  refine va_sld hx hb hX hbl hbA hS (vp_in_nI (by omega) (by omega)) dL_law_1254 ?_
  refine lv_cg (y := xs (5 * k + 1)) (by rw [nI_clamp (by omega)]) ?_
  refine lv_aload_n hx hb dL_law_1255 rfl (lv_at hl 3 rfl) ?_
  refine lv_iload_n hx hb dL_law_1256 rfl (lv_at hl 0 rfl) ?_
  refine lv_iconst (v := 2) hx hb dL_law_1257 (by decide) ?_
  refine lv_iadd hx hb dL_law_1258 ?_
  refine lv_cg (y := nI (5 * k + 2)) (by rw [show (2 : Int32) = nI 2 from rfl]; exact nI_add _ _) ?_
  refine va_sld hx hb hX hbl hbA hS (vp_in_nI (by omega) (by omega)) dL_law_1259 ?_
  refine lv_cg (y := xs (5 * k + 2)) (by rw [nI_clamp (by omega)]) ?_
  refine lv_aload_n hx hb dL_law_1260 rfl (lv_at hl 3 rfl) ?_
  refine lv_iload_n hx hb dL_law_1261 rfl (lv_at hl 0 rfl) ?_
  refine lv_iconst (v := 3) hx hb dL_law_1262 (by decide) ?_
  refine lv_iadd hx hb dL_law_1263 ?_
  refine lv_cg (y := nI (5 * k + 3)) (by rw [show (3 : Int32) = nI 3 from rfl]; exact nI_add _ _) ?_
  refine va_sld hx hb hX hbl hbA hS (vp_in_nI (by omega) (by omega)) dL_law_1264 ?_
  refine lv_cg (y := xs (5 * k + 3)) (by rw [nI_clamp (by omega)]) ?_
  refine va_calli (va_runV (As := [.int (xs (5 * k + 1)), .int (xs (5 * k + 2)), .int (xs (5 * k + 3))]) (rest := []) ⟨hx, hb, hml, hown, hg⟩ (k_X10_lay l dC dI G _ ax hi T Y fa N B N1 B1 N2 B2 K S M E Z (xs (5 * k + 1)) (xs (5 * k + 2)) (xs (5 * k + 3))) (kwV hg mfX10_lay wt_834 ⟨Nat.le_of_ble_eq_true rfl, Nat.le_of_ble_eq_true rfl⟩) (preVI hK hXI (hXI.recv hK)) rfl rfl hl.1 rfl (lv_room (Nat.le_of_ble_eq_true rfl)) dL_law_1265 ⟨Nat.le_of_ble_eq_true rfl, Nat.le_of_ble_eq_true rfl⟩) hS (fun q _ h => ad_A hAx hA (by decide) hS q h) (ad_A hAx hA (by decide) hS) (fun r1 u1 t1 H1 locs1 ht1 hv1 w1 hB1 hz1 hk1 hS => ?_)
  have hMI := hMI.kept (fr_ad (lo := 0) (hi := 112) hi (by decide) (by decide) (by decide) hk1)
  have hXI : X10I dC dI G ax T Y fa N B N1 B1 N2 B2 K S M E Z H1 := by rw [← ht1]; exact hB1
  refine W.widen (k := 129) (n := 4562) (by omega) (by omega) ?_
  refine lv_pop hx hb dL_law_1268 rfl ?_
  refine lv_aload_n hx hb dL_law_1269 rfl (lv_at hl 1 rfl) ?_
  refine lv_aload_n hx hb dL_law_1270 rfl (lv_at hl 3 rfl) ?_
  refine lv_iload_n hx hb dL_law_1271 rfl (lv_at hl 0 rfl) ?_
  refine lv_iconst (v := 1) hx hb dL_law_1272 (by decide) ?_
  refine lv_iadd hx hb dL_law_1273 ?_
  refine lv_cg (y := nI (5 * k + 1)) (by rw [show (1 : Int32) = nI 1 from rfl]; exact nI_add _ _) ?_
  refine va_sld hx hb hX hbl hbA hS (vp_in_nI (by omega) (by omega)) dL_law_1274 ?_
  refine lv_cg (y := xs (5 * k + 1)) (by rw [nI_clamp (by omega)]) ?_
  refine lv_aload_n hx hb dL_law_1275 rfl (lv_at hl 3 rfl) ?_
  refine lv_iload_n hx hb dL_law_1276 rfl (lv_at hl 0 rfl) ?_
  refine lv_iconst (v := 2) hx hb dL_law_1277 (by decide) ?_
  refine lv_iadd hx hb dL_law_1278 ?_
  refine lv_cg (y := nI (5 * k + 2)) (by rw [show (2 : Int32) = nI 2 from rfl]; exact nI_add _ _) ?_
  refine va_sld hx hb hX hbl hbA hS (vp_in_nI (by omega) (by omega)) dL_law_1279 ?_
  refine lv_cg (y := xs (5 * k + 2)) (by rw [nI_clamp (by omega)]) ?_
  refine lv_aload_n hx hb dL_law_1280 rfl (lv_at hl 3 rfl) ?_
  refine lv_iload_n hx hb dL_law_1281 rfl (lv_at hl 0 rfl) ?_
  refine lv_iconst (v := 3) hx hb dL_law_1282 (by decide) ?_
  refine lv_iadd hx hb dL_law_1283 ?_
  refine lv_cg (y := nI (5 * k + 3)) (by rw [show (3 : Int32) = nI 3 from rfl]; exact nI_add _ _) ?_
  refine va_sld hx hb hX hbl hbA hS (vp_in_nI (by omega) (by omega)) dL_law_1284 ?_
  refine lv_cg (y := xs (5 * k + 3)) (by rw [nI_clamp (by omega)]) ?_
  refine va_calli (va_runV (As := [.int (xs (5 * k + 1)), .int (xs (5 * k + 2)), .int (xs (5 * k + 3))]) (rest := []) ⟨hx, hb, hml, hown, hg⟩ (k_X11_lay l dC dI G _ ax hi T Y fa N B N1 B1 N2 B2 K S M E Z (xs (5 * k + 1)) (xs (5 * k + 2)) (xs (5 * k + 3))) (kwV hg mfX11_lay wt_1260 ⟨Nat.le_of_ble_eq_true rfl, Nat.le_of_ble_eq_true rfl⟩) (preVI hK hMI (hMI.recv hK)) rfl rfl hl.1 rfl (lv_room (Nat.le_of_ble_eq_true rfl)) dL_law_1285 ⟨Nat.le_of_ble_eq_true rfl, Nat.le_of_ble_eq_true rfl⟩) hS (fun q _ h => ad_A hAx hA (by decide) hS q h) (ad_A hAx hA (by decide) hS) (fun r2 u2 t2 H2 locs2 ht2 hv2 w2 hB2 hz2 hk2 hS => ?_)
  have hXI := hXI.kept (fr_ad (lo := 112) (hi := 129) hi (by decide) (by decide) (by decide) hk2)
  have hMI : X11I dC dI G ax T Y fa N B N1 B1 N2 B2 K S M E Z H2 := by rw [← ht2]; exact hB2
  refine W.widen (k := 129) (n := 4562) (by omega) (by omega) ?_
  refine lv_pop hx hb dL_law_1288 rfl ?_
  refine lv_goto (tgt := 1381) hx hb dL_law_1289 (by decide) ?_
  exact kk _ _ ⟨_, _, _, _, _, _, _, _, _, _, _, _, _, _, hXI, hMI⟩ hS

set_option maxHeartbeats 1000000 in
set_option maxRecDepth 100000 in
theorem lc_read {p : Program} {l : Launch} {e : Env} {s : State} {m : MethodId} {below : List Frame} {meth : Method} {c : Code} {b L : Nat} {xs : Nat → Int32} {dC : Nat → ClassId} {dI : Nat → Nat → Nat} {G : Nat → ClassId} {ax adK adV : Nat → Nat} {A : Nat → Prop} {Q : State → Prop} (C1 : lw_C p s m c b L xs dC dI G ax adK adV A) {k : Nat} (hk : 5 * k + 5 ≤ L) (hL : L ≤ 2560) {H : Heap} {locs : List Loc} {ls : Array Slot} (hI : LI dC dI G ax H) (hS : va_S A s.heap H locs) (hl : lv_has ls 4 [(3, .int (nI (5 * k))), (2, .ref (ax 112)), (1, .ref (ax 0)), (0, .ref b)]) (kk : ∀ (H : Heap) (locs : List Loc), LI dC dI G ax H → va_S A s.heap H locs → W p l e room_1 s m #[Value.ref b] below meth c H locs 129 4562 Q (F0 m 1381 ls [])) : W p l e room_1 s m #[Value.ref b] below meth c H locs 129 4562 Q (F0 m 1292 ls []) := by
  obtain ⟨hx, hb, hml, hown, hg, hX, hbl, hbA, hK, hi, hAx, hA, hSS⟩ := C1
  obtain ⟨T, Y, fa, N, B, N1, B1, N2, B2, K, S, M, E, Z, hXI, hMI⟩ := hI
  refine lv_aload_n hx hb dL_law_1292 rfl (lv_at hl 2 rfl) ?_
  refine lv_aload_n hx hb dL_law_1293 rfl (lv_at hl 3 rfl) ?_
  refine lv_iload_n hx hb dL_law_1294 rfl (lv_at hl 0 rfl) ?_
  refine lv_iconst (v := 1) hx hb dL_law_1295 (by decide) ?_
  refine lv_iadd hx hb dL_law_1296 ?_
  refine lv_cg (y := nI (5 * k + 1)) (by rw [show (1 : Int32) = nI 1 from rfl]; exact nI_add _ _) ?_
  refine va_sld hx hb hX hbl hbA hS (vp_in_nI (by omega) (by omega)) dL_law_1297 ?_
  refine lv_cg (y := xs (5 * k + 1)) (by rw [nI_clamp (by omega)]) ?_
  refine lv_aload_n hx hb dL_law_1298 rfl (lv_at hl 3 rfl) ?_
  refine lv_iload_n hx hb dL_law_1299 rfl (lv_at hl 0 rfl) ?_
  refine lv_iconst (v := 2) hx hb dL_law_1300 (by decide) ?_
  refine lv_iadd hx hb dL_law_1301 ?_
  refine lv_cg (y := nI (5 * k + 2)) (by rw [show (2 : Int32) = nI 2 from rfl]; exact nI_add _ _) ?_
  refine va_sld hx hb hX hbl hbA hS (vp_in_nI (by omega) (by omega)) dL_law_1302 ?_
  refine lv_cg (y := xs (5 * k + 2)) (by rw [nI_clamp (by omega)]) ?_
  refine lv_aload_n hx hb dL_law_1303 rfl (lv_at hl 3 rfl) ?_
  refine lv_iload_n hx hb dL_law_1304 rfl (lv_at hl 0 rfl) ?_
  refine lv_iconst (v := 3) hx hb dL_law_1305 (by decide) ?_
  refine lv_iadd hx hb dL_law_1306 ?_
  refine lv_cg (y := nI (5 * k + 3)) (by rw [show (3 : Int32) = nI 3 from rfl]; exact nI_add _ _) ?_
  refine va_sld hx hb hX hbl hbA hS (vp_in_nI (by omega) (by omega)) dL_law_1307 ?_
  refine lv_cg (y := xs (5 * k + 3)) (by rw [nI_clamp (by omega)]) ?_
  refine lv_aload_n hx hb dL_law_1308 rfl (lv_at hl 3 rfl) ?_
  refine lv_iload_n hx hb dL_law_1309 rfl (lv_at hl 0 rfl) ?_
  refine lv_iconst (v := 4) hx hb dL_law_1310 (by decide) ?_
  refine lv_iadd hx hb dL_law_1311 ?_
  refine lv_cg (y := nI (5 * k + 4)) (by rw [show (4 : Int32) = nI 4 from rfl]; exact nI_add _ _) ?_
  refine va_sld hx hb hX hbl hbA hS (vp_in_nI (by omega) (by omega)) dL_law_1312 ?_
  refine lv_cg (y := xs (5 * k + 4)) (by rw [nI_clamp (by omega)]) ?_
  refine va_calli (va_runV (As := [.int (xs (5 * k + 1)), .int (xs (5 * k + 2)), .int (xs (5 * k + 3)), .int (xs (5 * k + 4))]) (rest := []) ⟨hx, hb, hml, hown, hg⟩ (k_X10_read l dC dI G _ ax hi T Y fa N B N1 B1 N2 B2 K S M E Z (xs (5 * k + 1)) (xs (5 * k + 2)) (xs (5 * k + 3)) (xs (5 * k + 4))) (kwV hg mfX10_read wt_847 ⟨Nat.le_of_ble_eq_true rfl, Nat.le_of_ble_eq_true rfl⟩) (preVI hK hXI (hXI.recv hK)) rfl rfl hl.1 rfl (lv_room (Nat.le_of_ble_eq_true rfl)) dL_law_1313 ⟨Nat.le_of_ble_eq_true rfl, Nat.le_of_ble_eq_true rfl⟩) hS (fun q _ h => ad_A hAx hA (by decide) hS q h) (ad_A hAx hA (by decide) hS) (fun r1 u1 t1 H1 locs1 ht1 hv1 w1 hB1 hz1 hk1 hS => ?_)
  have hMI := hMI.kept (fr_ad (lo := 0) (hi := 112) hi (by decide) (by decide) (by decide) hk1)
  have hXI : X10I dC dI G ax T Y fa N B N1 B1 N2 B2 K S M E Z H1 := by rw [← ht1]; exact hB1
  refine W.widen (k := 129) (n := 4562) (by omega) (by omega) ?_
  refine lv_pop hx hb dL_law_1316 rfl ?_
  refine lv_aload_n hx hb dL_law_1317 rfl (lv_at hl 1 rfl) ?_
  refine lv_aload_n hx hb dL_law_1318 rfl (lv_at hl 3 rfl) ?_
  refine lv_iload_n hx hb dL_law_1319 rfl (lv_at hl 0 rfl) ?_
  refine lv_iconst (v := 1) hx hb dL_law_1320 (by decide) ?_
  refine lv_iadd hx hb dL_law_1321 ?_
  refine lv_cg (y := nI (5 * k + 1)) (by rw [show (1 : Int32) = nI 1 from rfl]; exact nI_add _ _) ?_
  refine va_sld hx hb hX hbl hbA hS (vp_in_nI (by omega) (by omega)) dL_law_1322 ?_
  refine lv_cg (y := xs (5 * k + 1)) (by rw [nI_clamp (by omega)]) ?_
  refine lv_aload_n hx hb dL_law_1323 rfl (lv_at hl 3 rfl) ?_
  refine lv_iload_n hx hb dL_law_1324 rfl (lv_at hl 0 rfl) ?_
  refine lv_iconst (v := 2) hx hb dL_law_1325 (by decide) ?_
  refine lv_iadd hx hb dL_law_1326 ?_
  refine lv_cg (y := nI (5 * k + 2)) (by rw [show (2 : Int32) = nI 2 from rfl]; exact nI_add _ _) ?_
  refine va_sld hx hb hX hbl hbA hS (vp_in_nI (by omega) (by omega)) dL_law_1327 ?_
  refine lv_cg (y := xs (5 * k + 2)) (by rw [nI_clamp (by omega)]) ?_
  refine lv_aload_n hx hb dL_law_1328 rfl (lv_at hl 3 rfl) ?_
  refine lv_iload_n hx hb dL_law_1329 rfl (lv_at hl 0 rfl) ?_
  refine lv_iconst (v := 3) hx hb dL_law_1330 (by decide) ?_
  refine lv_iadd hx hb dL_law_1331 ?_
  refine lv_cg (y := nI (5 * k + 3)) (by rw [show (3 : Int32) = nI 3 from rfl]; exact nI_add _ _) ?_
  refine va_sld hx hb hX hbl hbA hS (vp_in_nI (by omega) (by omega)) dL_law_1332 ?_
  refine lv_cg (y := xs (5 * k + 3)) (by rw [nI_clamp (by omega)]) ?_
  refine lv_aload_n hx hb dL_law_1333 rfl (lv_at hl 3 rfl) ?_
  refine lv_iload_n hx hb dL_law_1334 rfl (lv_at hl 0 rfl) ?_
  refine lv_iconst (v := 4) hx hb dL_law_1335 (by decide) ?_
  refine lv_iadd hx hb dL_law_1336 ?_
  refine lv_cg (y := nI (5 * k + 4)) (by rw [show (4 : Int32) = nI 4 from rfl]; exact nI_add _ _) ?_
  refine va_sld hx hb hX hbl hbA hS (vp_in_nI (by omega) (by omega)) dL_law_1337 ?_
  refine lv_cg (y := xs (5 * k + 4)) (by rw [nI_clamp (by omega)]) ?_
  refine va_calli (va_runV (As := [.int (xs (5 * k + 1)), .int (xs (5 * k + 2)), .int (xs (5 * k + 3)), .int (xs (5 * k + 4))]) (rest := []) ⟨hx, hb, hml, hown, hg⟩ (k_X11_read l dC dI G _ ax hi T Y fa N B N1 B1 N2 B2 K S M E Z (xs (5 * k + 1)) (xs (5 * k + 2)) (xs (5 * k + 3)) (xs (5 * k + 4))) (kwV hg mfX11_read wt_1264 ⟨Nat.le_of_ble_eq_true rfl, Nat.le_of_ble_eq_true rfl⟩) (preVI hK hMI (hMI.recv hK)) rfl rfl hl.1 rfl (lv_room (Nat.le_of_ble_eq_true rfl)) dL_law_1338 ⟨Nat.le_of_ble_eq_true rfl, Nat.le_of_ble_eq_true rfl⟩) hS (fun q _ h => ad_A hAx hA (by decide) hS q h) (ad_A hAx hA (by decide) hS) (fun r2 u2 t2 H2 locs2 ht2 hv2 w2 hB2 hz2 hk2 hS => ?_)
  have hXI := hXI.kept (fr_ad (lo := 112) (hi := 129) hi (by decide) (by decide) (by decide) hk2)
  have hMI : X11I dC dI G ax T Y fa N B N1 B1 N2 B2 K S M E Z H2 := by rw [← ht2]; exact hB2
  refine W.widen (k := 129) (n := 4562) (by omega) (by omega) ?_
  refine lv_pop hx hb dL_law_1341 rfl ?_
  refine lv_goto (tgt := 1381) hx hb dL_law_1342 (by decide) ?_
  exact kk _ _ ⟨_, _, _, _, _, _, _, _, _, _, _, _, _, _, hXI, hMI⟩ hS

set_option maxHeartbeats 1000000 in
set_option maxRecDepth 100000 in
theorem lc_torn {p : Program} {l : Launch} {e : Env} {s : State} {m : MethodId} {below : List Frame} {meth : Method} {c : Code} {b L : Nat} {xs : Nat → Int32} {dC : Nat → ClassId} {dI : Nat → Nat → Nat} {G : Nat → ClassId} {ax adK adV : Nat → Nat} {A : Nat → Prop} {Q : State → Prop} (C1 : lw_C p s m c b L xs dC dI G ax adK adV A) {k : Nat} (hk : 5 * k + 5 ≤ L) (hL : L ≤ 2560) {H : Heap} {locs : List Loc} {ls : Array Slot} (hI : LI dC dI G ax H) (hS : va_S A s.heap H locs) (hl : lv_has ls 4 [(3, .int (nI (5 * k))), (2, .ref (ax 112)), (1, .ref (ax 0)), (0, .ref b)]) (kk : ∀ (H : Heap) (locs : List Loc), LI dC dI G ax H → va_S A s.heap H locs → W p l e room_1 s m #[Value.ref b] below meth c H locs 129 4562 Q (F0 m 1381 ls [])) : W p l e room_1 s m #[Value.ref b] below meth c H locs 129 4562 Q (F0 m 1345 ls []) := by
  obtain ⟨hx, hb, hml, hown, hg, hX, hbl, hbA, hK, hi, hAx, hA, hSS⟩ := C1
  obtain ⟨T, Y, fa, N, B, N1, B1, N2, B2, K, S, M, E, Z, hXI, hMI⟩ := hI
  refine lv_aload_n hx hb dL_law_1345 rfl (lv_at hl 2 rfl) ?_
  refine va_calli (va_runV (As := []) (rest := []) ⟨hx, hb, hml, hown, hg⟩ (k_X10_torn l dC dI G _ ax hi T Y fa N B N1 B1 N2 B2 K S M E Z) (kwV hg mfX10_torn wt_856 ⟨Nat.le_of_ble_eq_true rfl, Nat.le_of_ble_eq_true rfl⟩) (preVI hK hXI (hXI.recv hK)) rfl rfl hl.1 rfl (lv_room (Nat.le_of_ble_eq_true rfl)) dL_law_1346 ⟨Nat.le_of_ble_eq_true rfl, Nat.le_of_ble_eq_true rfl⟩) hS (fun q _ h => ad_A hAx hA (by decide) hS q h) (ad_A hAx hA (by decide) hS) (fun r1 u1 t1 H1 locs1 ht1 hv1 w1 hB1 hz1 hk1 hS => ?_)
  have hMI := hMI.kept (fr_ad (lo := 0) (hi := 112) hi (by decide) (by decide) (by decide) hk1)
  have hXI : X10I dC dI G ax T Y fa N B N1 B1 N2 B2 K S M E Z H1 := by rw [← ht1]; exact hB1
  refine W.widen (k := 129) (n := 4562) (by omega) (by omega) ?_
  refine lv_pop hx hb dL_law_1349 rfl ?_
  refine lv_aload_n hx hb dL_law_1350 rfl (lv_at hl 1 rfl) ?_
  refine va_calli (va_runV (As := []) (rest := []) ⟨hx, hb, hml, hown, hg⟩ (k_X11_torn l dC dI G _ ax hi T Y fa N B N1 B1 N2 B2 K S M E Z) (kwV hg mfX11_torn wt_1268 ⟨Nat.le_of_ble_eq_true rfl, Nat.le_of_ble_eq_true rfl⟩) (preVI hK hMI (hMI.recv hK)) rfl rfl hl.1 rfl (lv_room (Nat.le_of_ble_eq_true rfl)) dL_law_1351 ⟨Nat.le_of_ble_eq_true rfl, Nat.le_of_ble_eq_true rfl⟩) hS (fun q _ h => ad_A hAx hA (by decide) hS q h) (ad_A hAx hA (by decide) hS) (fun r2 u2 t2 H2 locs2 ht2 hv2 w2 hB2 hz2 hk2 hS => ?_)
  have hXI := hXI.kept (fr_ad (lo := 112) (hi := 129) hi (by decide) (by decide) (by decide) hk2)
  have hMI : X11I dC dI G ax T Y fa N B N1 B1 N2 B2 K S M E Z H2 := by rw [← ht2]; exact hB2
  refine W.widen (k := 129) (n := 4562) (by omega) (by omega) ?_
  refine lv_pop hx hb dL_law_1354 rfl ?_
  refine lv_goto (tgt := 1381) hx hb dL_law_1355 (by decide) ?_
  exact kk _ _ ⟨_, _, _, _, _, _, _, _, _, _, _, _, _, _, hXI, hMI⟩ hS

set_option maxHeartbeats 1000000 in
set_option maxRecDepth 100000 in
theorem lc_count {p : Program} {l : Launch} {e : Env} {s : State} {m : MethodId} {below : List Frame} {meth : Method} {c : Code} {b L : Nat} {xs : Nat → Int32} {dC : Nat → ClassId} {dI : Nat → Nat → Nat} {G : Nat → ClassId} {ax adK adV : Nat → Nat} {A : Nat → Prop} {Q : State → Prop} (C1 : lw_C p s m c b L xs dC dI G ax adK adV A) {k : Nat} (hk : 5 * k + 5 ≤ L) (hL : L ≤ 2560) {H : Heap} {locs : List Loc} {ls : Array Slot} (hI : LI dC dI G ax H) (hS : va_S A s.heap H locs) (hl : lv_has ls 4 [(3, .int (nI (5 * k))), (2, .ref (ax 112)), (1, .ref (ax 0)), (0, .ref b)]) (kk : ∀ (H : Heap) (locs : List Loc), LI dC dI G ax H → va_S A s.heap H locs → W p l e room_1 s m #[Value.ref b] below meth c H locs 129 4562 Q (F0 m 1381 ls [])) : W p l e room_1 s m #[Value.ref b] below meth c H locs 129 4562 Q (F0 m 1358 ls []) := by
  obtain ⟨hx, hb, hml, hown, hg, hX, hbl, hbA, hK, hi, hAx, hA, hSS⟩ := C1
  obtain ⟨T, Y, fa, N, B, N1, B1, N2, B2, K, S, M, E, Z, hXI, hMI⟩ := hI
  refine lv_aload_n hx hb dL_law_1358 rfl (lv_at hl 2 rfl) ?_
  refine lv_aload_n hx hb dL_law_1359 rfl (lv_at hl 3 rfl) ?_
  refine lv_iload_n hx hb dL_law_1360 rfl (lv_at hl 0 rfl) ?_
  refine lv_iconst (v := 1) hx hb dL_law_1361 (by decide) ?_
  refine lv_iadd hx hb dL_law_1362 ?_
  refine lv_cg (y := nI (5 * k + 1)) (by rw [show (1 : Int32) = nI 1 from rfl]; exact nI_add _ _) ?_
  refine va_sld hx hb hX hbl hbA hS (vp_in_nI (by omega) (by omega)) dL_law_1363 ?_
  refine lv_cg (y := xs (5 * k + 1)) (by rw [nI_clamp (by omega)]) ?_
  refine va_calli (va_runV (As := [.int (xs (5 * k + 1))]) (rest := []) ⟨hx, hb, hml, hown, hg⟩ (k_X10_count l dC dI G _ ax hi T Y fa N B N1 B1 N2 B2 K S M E Z (xs (5 * k + 1))) (kwV hg mfX10_count wt_860 ⟨Nat.le_of_ble_eq_true rfl, Nat.le_of_ble_eq_true rfl⟩) (preVI hK hXI (hXI.recv hK)) rfl rfl hl.1 rfl (lv_room (Nat.le_of_ble_eq_true rfl)) dL_law_1364 ⟨Nat.le_of_ble_eq_true rfl, Nat.le_of_ble_eq_true rfl⟩) hS (fun q _ h => ad_A hAx hA (by decide) hS q h) (ad_A hAx hA (by decide) hS) (fun r1 u1 t1 H1 locs1 ht1 hv1 w1 hB1 hz1 hk1 hS => ?_)
  have hMI := hMI.kept (fr_ad (lo := 0) (hi := 112) hi (by decide) (by decide) (by decide) hk1)
  have hXI : X10I dC dI G ax T Y fa N B N1 B1 N2 B2 K S M E Z H1 := by rw [← ht1]; exact hB1
  refine W.widen (k := 129) (n := 4562) (by omega) (by omega) ?_
  refine lv_pop hx hb dL_law_1367 rfl ?_
  refine lv_aload_n hx hb dL_law_1368 rfl (lv_at hl 1 rfl) ?_
  refine lv_aload_n hx hb dL_law_1369 rfl (lv_at hl 3 rfl) ?_
  refine lv_iload_n hx hb dL_law_1370 rfl (lv_at hl 0 rfl) ?_
  refine lv_iconst (v := 1) hx hb dL_law_1371 (by decide) ?_
  refine lv_iadd hx hb dL_law_1372 ?_
  refine lv_cg (y := nI (5 * k + 1)) (by rw [show (1 : Int32) = nI 1 from rfl]; exact nI_add _ _) ?_
  refine va_sld hx hb hX hbl hbA hS (vp_in_nI (by omega) (by omega)) dL_law_1373 ?_
  refine lv_cg (y := xs (5 * k + 1)) (by rw [nI_clamp (by omega)]) ?_
  refine va_calli (va_runV (As := [.int (xs (5 * k + 1))]) (rest := []) ⟨hx, hb, hml, hown, hg⟩ (k_X11_count l dC dI G _ ax hi T Y fa N B N1 B1 N2 B2 K S M E Z (xs (5 * k + 1))) (kwV hg mfX11_count wt_1272 ⟨Nat.le_of_ble_eq_true rfl, Nat.le_of_ble_eq_true rfl⟩) (preVI hK hMI (hMI.recv hK)) rfl rfl hl.1 rfl (lv_room (Nat.le_of_ble_eq_true rfl)) dL_law_1374 ⟨Nat.le_of_ble_eq_true rfl, Nat.le_of_ble_eq_true rfl⟩) hS (fun q _ h => ad_A hAx hA (by decide) hS q h) (ad_A hAx hA (by decide) hS) (fun r2 u2 t2 H2 locs2 ht2 hv2 w2 hB2 hz2 hk2 hS => ?_)
  have hXI := hXI.kept (fr_ad (lo := 112) (hi := 129) hi (by decide) (by decide) (by decide) hk2)
  have hMI : X11I dC dI G ax T Y fa N B N1 B1 N2 B2 K S M E Z H2 := by rw [← ht2]; exact hB2
  refine W.widen (k := 129) (n := 4562) (by omega) (by omega) ?_
  refine lv_pop hx hb dL_law_1377 rfl ?_
  refine lv_goto (tgt := 1381) hx hb dL_law_1378 (by decide) ?_
  exact kk _ _ ⟨_, _, _, _, _, _, _, _, _, _, _, _, _, _, hXI, hMI⟩ hS
