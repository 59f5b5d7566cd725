def LI (dC : Nat → ClassId) (dI : Nat → Nat → Nat) (G : Nat → ClassId) (ax : Nat → Nat) (H : Heap) : Prop := ∃ (T : Nat) (Y : Nat → Int32) (fa : Int32) (N : Nat) (B : Nat) (N1 : Nat) (B1 : Nat) (N2 : Nat) (B2 : Nat) (K : Nat → Int32) (S : Nat) (M : Nat) (E : Nat → Int32) (Z : Nat → Int32), X10I dC dI G ax T Y fa N B N1 B1 N2 B2 K S M E Z H ∧ X11I dC dI G ax T Y fa N B N1 B1 N2 B2 K S M E Z H
def lw_C (p : Program) (s : State) (m : MethodId) (c : Code) (b L : Nat) (xs : Nat → Int32) (dC : Nat → ClassId) (dI : Nat → Nat → Nat) (G : Nat → ClassId) (ax adK adV : Nat → Nat) (A : Nat → Prop) : Prop :=
  p.tables.exec = Jvm.exec ∧ c.code = code ∧ c.maxLocals = 4 ∧ s.vm.findClass RL = some m.cls ∧ (∀ w ∈ GT, w.before #[Value.ref b] s = true) ∧ va_X b L xs s s.heap ∧ b < s.heap.size ∧ ¬ A b ∧ KK dC dI G s ∧ adInj 129 ax ∧ (∀ i : Nat, i < 129 → A (ax i)) ∧ (∀ q : Nat, s.heap.size ≤ q → A q) ∧ SS adK adV A s s.heap
theorem ad_A {n lo hi : Nat} {ax : Nat → Nat} {A : Nat → Prop} {H0 H : Heap} {locs : List Loc} (hAx : ∀ i : Nat, i < n → A (ax i)) (hA : ∀ q : Nat, H0.size ≤ q → A q) (hhi : hi ≤ n) (hS : va_S A H0 H locs) : ∀ q : Nat, adX lo hi ax H.size q → A q := by
  intro q h
  rcases h with ⟨i, h1, h2, rfl⟩ | h
  · exact hAx i (by omega)
  · exact hA q (Nat.le_trans hS.1 h)
set_option maxHeartbeats 1000000 in
set_option maxRecDepth 100000 in
theorem lc_feed {p : Program} {l : Launch} {e : Env} {s : State} {m : MethodId} {below : List Frame} {meth : Method} {c : Code} {b L : Nat} {xs : Nat → Int32} {dC : Nat → ClassId} {dI : Nat → Nat → Nat} {G : Nat → ClassId} {ax adK adV : Nat → Nat} {A : Nat → Prop} {Q : State → Prop} (C1 : lw_C p s m c b L xs dC dI G ax adK adV A) {k : Nat} (hk : 5 * k + 5 ≤ L) (hL : L ≤ 2560) {H : Heap} {locs : List Loc} {ls : Array Slot} (hI : LI dC dI G ax H) (hS : va_S A s.heap H locs) (hl : lv_has ls 4 [(3, .int (nI (5 * k))), (2, .ref (ax 112)), (1, .ref (ax 0)), (0, .ref b)]) (kk : ∀ (H : Heap) (locs : List Loc), LI dC dI G ax H → va_S A s.heap H locs → W p l e room_1 s m #[Value.ref b] below meth c H locs 129 4562 Q (F0 m 1381 ls [])) : W p l e room_1 s m #[Value.ref b] below meth c H locs 129 4562 Q (F0 m 204 ls []) := by
  obtain ⟨hx, hb, hml, hown, hg, hX, hbl, hbA, hK, hi, hAx, hA, hSS⟩ := C1
  obtain ⟨T, Y, fa, N, B, N1, B1, N2, B2, K, S, M, E, Z, hXI, hMI⟩ := hI
  refine lv_aload_n hx hb dL_law_204 rfl (lv_at hl 2 rfl) ?_
  refine lv_aload_n hx hb dL_law_205 rfl (lv_at hl 3 rfl) ?_
  refine lv_iload_n hx hb dL_law_206 rfl (lv_at hl 0 rfl) ?_
  refine lv_iconst (v := 1) hx hb dL_law_207 (by decide) ?_
  refine lv_iadd hx hb dL_law_208 ?_
  refine lv_cg (y := nI (5 * k + 1)) (by rw [show (1 : Int32) = nI 1 from rfl]; exact nI_add _ _) ?_
  refine va_sld hx hb hX hbl hbA hS (vp_in_nI (by omega) (by omega)) dL_law_209 ?_
  refine lv_cg (y := xs (5 * k + 1)) (by rw [nI_clamp (by omega)]) ?_
  refine lv_i2l (v := (xs (5 * k + 1)).toInt64) hx hb dL_law_210 rfl ?_
  refine lv_bipush (v := 32) hx hb dL_law_211 (by decide) ?_
  refine lv_lshl (v := ((xs (5 * k + 1)).toInt64) <<< (((32 : Int32).toInt64) &&& 63)) hx hb dL_law_213 rfl ?_
  refine lv_aload_n hx hb dL_law_214 rfl (lv_at hl 3 rfl) ?_
  refine lv_iload_n hx hb dL_law_215 rfl (lv_at hl 0 rfl) ?_
  refine lv_iconst (v := 2) hx hb dL_law_216 (by decide) ?_
  refine lv_iadd hx hb dL_law_217 ?_
  refine lv_cg (y := nI (5 * k + 2)) (by rw [show (2 : Int32) = nI 2 from rfl]; exact nI_add _ _) ?_
  refine va_sld hx hb hX hbl hbA hS (vp_in_nI (by omega) (by omega)) dL_law_218 ?_
  refine lv_cg (y := xs (5 * k + 2)) (by rw [nI_clamp (by omega)]) ?_
  refine lv_i2l (v := (xs (5 * k + 2)).toInt64) hx hb dL_law_219 rfl ?_
  refine lv_ldc2 (v := 4294967295) hx hb hown (hg _ wt_1276) dL_law_220 ?_
  refine lv_land hx hb dL_law_223 ?_
  refine lv_lor hx hb dL_law_224 ?_
  refine va_calli (va_runV (As := [.long ((((xs (5 * k + 1)).toInt64) <<< (((32 : Int32).toInt64) &&& 63)) ||| (((xs (5 * k + 2)).toInt64) &&& 4294967295))]) (rest := []) ⟨hx, hb, hml, hown, hg⟩ (k_X10_feedE l dC dI G _ ax hi T Y fa N B N1 B1 N2 B2 K S M E Z ((((xs (5 * k + 1)).toInt64) <<< (((32 : Int32).toInt64) &&& 63)) ||| (((xs (5 * k + 2)).toInt64) &&& 4294967295))) (kwV hg mfX10_feed wt_345 ⟨Nat.le_of_ble_eq_true rfl, Nat.le_of_ble_eq_true rfl⟩) (preVI hK hXI (hXI.recv hK)) rfl rfl hl.1 rfl (lv_room (Nat.le_of_ble_eq_true rfl)) dL_law_225 ⟨Nat.le_of_ble_eq_true rfl, Nat.le_of_ble_eq_true rfl⟩) hS (fun q _ h => ad_A hAx hA (by decide) hS q h) (ad_A hAx hA (by decide) hS) (fun r1 u1 t1 H1 locs1 ht1 hv1 w1 hB1 hz1 hk1 hS => ?_)
  have hMI := hMI.kept (fr_ad (lo := 0) (hi := 112) hi (by decide) (by decide) (by decide) hk1)
  have hXI : X10I dC dI G ax (if T + 8 ≤ 320 then T + 8 else T) (if T + 8 ≤ 320 then fdC Y T ((((xs (5 * k + 1)).toInt64) <<< (((32 : Int32).toInt64) &&& 63)) ||| (((xs (5 * k + 2)).toInt64) &&& 4294967295)) else Y) fa N B N1 B1 N2 B2 K S M E Z H1 := by rw [← ht1]; exact hB1
  refine W.widen (k := 129) (n := 4562) (by omega) (by omega) ?_
  refine lv_pop hx hb dL_law_228 rfl ?_
  refine lv_aload_n hx hb dL_law_229 rfl (lv_at hl 1 rfl) ?_
  refine lv_aload_n hx hb dL_law_230 rfl (lv_at hl 3 rfl) ?_
  refine lv_iload_n hx hb dL_law_231 rfl (lv_at hl 0 rfl) ?_
  refine lv_iconst (v := 1) hx hb dL_law_232 (by decide) ?_
  refine lv_iadd hx hb dL_law_233 ?_
  refine lv_cg (y := nI (5 * k + 1)) (by rw [show (1 : Int32) = nI 1 from rfl]; exact nI_add _ _) ?_
  refine va_sld hx hb hX hbl hbA hS (vp_in_nI (by omega) (by omega)) dL_law_234 ?_
  refine lv_cg (y := xs (5 * k + 1)) (by rw [nI_clamp (by omega)]) ?_
  refine lv_i2l (v := (xs (5 * k + 1)).toInt64) hx hb dL_law_235 rfl ?_
  refine lv_bipush (v := 32) hx hb dL_law_236 (by decide) ?_
  refine lv_lshl (v := ((xs (5 * k + 1)).toInt64) <<< (((32 : Int32).toInt64) &&& 63)) hx hb dL_law_238 rfl ?_
  refine lv_aload_n hx hb dL_law_239 rfl (lv_at hl 3 rfl) ?_
  refine lv_iload_n hx hb dL_law_240 rfl (lv_at hl 0 rfl) ?_
  refine lv_iconst (v := 2) hx hb dL_law_241 (by decide) ?_
  refine lv_iadd hx hb dL_law_242 ?_
  refine lv_cg (y := nI (5 * k + 2)) (by rw [show (2 : Int32) = nI 2 from rfl]; exact nI_add _ _) ?_
  refine va_sld hx hb hX hbl hbA hS (vp_in_nI (by omega) (by omega)) dL_law_243 ?_
  refine lv_cg (y := xs (5 * k + 2)) (by rw [nI_clamp (by omega)]) ?_
  refine lv_i2l (v := (xs (5 * k + 2)).toInt64) hx hb dL_law_244 rfl ?_
  refine lv_ldc2 (v := 4294967295) hx hb hown (hg _ wt_1276) dL_law_245 ?_
  refine lv_land hx hb dL_law_248 ?_
  refine lv_lor hx hb dL_law_249 ?_
  refine va_calli (va_runV (As := [.long ((((xs (5 * k + 1)).toInt64) <<< (((32 : Int32).toInt64) &&& 63)) ||| (((xs (5 * k + 2)).toInt64) &&& 4294967295))]) (rest := []) ⟨hx, hb, hml, hown, hg⟩ (k_X11_feedE l dC dI G _ ax hi T Y fa N B N1 B1 N2 B2 K S M E Z ((((xs (5 * k + 1)).toInt64) <<< (((32 : Int32).toInt64) &&& 63)) ||| (((xs (5 * k + 2)).toInt64) &&& 4294967295))) (kwV hg mfX11_feed wt_984 ⟨Nat.le_of_ble_eq_true rfl, Nat.le_of_ble_eq_true rfl⟩) (preVI hK hMI (hMI.recv hK)) rfl rfl hl.1 rfl (lv_room (Nat.le_of_ble_eq_true rfl)) dL_law_250 ⟨Nat.le_of_ble_eq_true rfl, Nat.le_of_ble_eq_true rfl⟩) hS (fun q _ h => ad_A hAx hA (by decide) hS q h) (ad_A hAx hA (by decide) hS) (fun r2 u2 t2 H2 locs2 ht2 hv2 w2 hB2 hz2 hk2 hS => ?_)
  have hXI := hXI.kept (fr_ad (lo := 112) (hi := 129) hi (by decide) (by decide) (by decide) hk2)
  have hMI : X11I dC dI G ax (if T + 8 ≤ 320 then T + 8 else T) (if T + 8 ≤ 320 then fdC Y T ((((xs (5 * k + 1)).toInt64) <<< (((32 : Int32).toInt64) &&& 63)) ||| (((xs (5 * k + 2)).toInt64) &&& 4294967295)) else Y) fa N B N1 B1 N2 B2 K S M E Z H2 := by rw [← ht2]; exact hB2
  refine W.widen (k := 129) (n := 4562) (by omega) (by omega) ?_
  refine lv_pop hx hb dL_law_253 rfl ?_
  refine lv_goto (tgt := 1381) hx hb dL_law_254 (by decide) ?_
  exact kk _ _ ⟨_, _, _, _, _, _, _, _, _, _, _, _, _, _, hXI, hMI⟩ hS

set_option maxHeartbeats 1000000 in
set_option maxRecDepth 100000 in
theorem lc_end {p : Program} {l : Launch} {e : Env} {s : State} {m : MethodId} {below : List Frame} {meth : Method} {c : Code} {b L : Nat} {xs : Nat → Int32} {dC : Nat → ClassId} {dI : Nat → Nat → Nat} {G : Nat → ClassId} {ax adK adV : Nat → Nat} {A : Nat → Prop} {Q : State → Prop} (C1 : lw_C p s m c b L xs dC dI G ax adK adV A) {k : Nat} (hk : 5 * k + 5 ≤ L) (hL : L ≤ 2560) {H : Heap} {locs : List Loc} {ls : Array Slot} (hI : LI dC dI G ax H) (hS : va_S A s.heap H locs) (hl : lv_has ls 4 [(3, .int (nI (5 * k))), (2, .ref (ax 112)), (1, .ref (ax 0)), (0, .ref b)]) (kk : ∀ (H : Heap) (locs : List Loc), LI dC dI G ax H → va_S A s.heap H locs → W p l e room_1 s m #[Value.ref b] below meth c H locs 129 4562 Q (F0 m 1381 ls [])) : W p l e room_1 s m #[Value.ref b] below meth c H locs 129 4562 Q (F0 m 257 ls []) := by
  obtain ⟨hx, hb, hml, hown, hg, hX, hbl, hbA, hK, hi, hAx, hA, hSS⟩ := C1
  obtain ⟨T, Y, fa, N, B, N1, B1, N2, B2, K, S, M, E, Z, hXI, hMI⟩ := hI
  refine lv_aload_n hx hb dL_law_257 rfl (lv_at hl 2 rfl) ?_
  refine lv_aload_n hx hb dL_law_258 rfl (lv_at hl 3 rfl) ?_
  refine lv_iload_n hx hb dL_law_259 rfl (lv_at hl 0 rfl) ?_
  refine lv_iconst (v := 1) hx hb dL_law_260 (by decide) ?_
  refine lv_iadd hx hb dL_law_261 ?_
  refine lv_cg (y := nI (5 * k + 1)) (by rw [show (1 : Int32) = nI 1 from rfl]; exact nI_add _ _) ?_
  refine va_sld hx hb hX hbl hbA hS (vp_in_nI (by omega) (by omega)) dL_law_262 ?_
  refine lv_cg (y := xs (5 * k + 1)) (by rw [nI_clamp (by omega)]) ?_
  refine va_calli (va_runV (As := [.int (xs (5 * k + 1))]) (rest := []) ⟨hx, hb, hml, hown, hg⟩ (k_X10_end l dC dI G _ ax hi T Y fa N B N1 B1 N2 B2 K S M E Z (xs (5 * k + 1))) (kwV hg mfX10_end wt_354 ⟨Nat.le_of_ble_eq_true rfl, Nat.le_of_ble_eq_true rfl⟩) (preVI hK hXI (hXI.recv hK)) rfl rfl hl.1 rfl (lv_room (Nat.le_of_ble_eq_true rfl)) dL_law_263 ⟨Nat.le_of_ble_eq_true rfl, Nat.le_of_ble_eq_true rfl⟩) hS (fun q _ h => ad_A hAx hA (by decide) hS q h) (ad_A hAx hA (by decide) hS) (fun r1 u1 t1 H1 locs1 ht1 hv1 w1 hB1 hz1 hk1 hS => ?_)
  have hMI := hMI.kept (fr_ad (lo := 0) (hi := 112) hi (by decide) (by decide) (by decide) hk1)
  have hXI : X10I dC dI G ax (if 0 ≤ (xs (5 * k + 1)).toInt ∧ (xs (5 * k + 1)).toInt ≤ ((T : Nat) : Int) then (xs (5 * k + 1)).toNatClampNeg else T) Y fa N B N1 B1 N2 B2 K S M E Z H1 := by rw [← ht1]; exact hB1
  refine W.widen (k := 129) (n := 4562) (by omega) (by omega) ?_
  refine lv_pop hx hb dL_law_266 rfl ?_
  refine lv_aload_n hx hb dL_law_267 rfl (lv_at hl 1 rfl) ?_
  refine lv_aload_n hx hb dL_law_268 rfl (lv_at hl 3 rfl) ?_
  refine lv_iload_n hx hb dL_law_269 rfl (lv_at hl 0 rfl) ?_
  refine lv_iconst (v := 1) hx hb dL_law_270 (by decide) ?_
  refine lv_iadd hx hb dL_law_271 ?_
  refine lv_cg (y := nI (5 * k + 1)) (by rw [show (1 : Int32) = nI 1 from rfl]; exact nI_add _ _) ?_
  refine va_sld hx hb hX hbl hbA hS (vp_in_nI (by omega) (by omega)) dL_law_272 ?_
  refine lv_cg (y := xs (5 * k + 1)) (by rw [nI_clamp (by omega)]) ?_
  refine va_calli (va_runV (As := [.int (xs (5 * k + 1))]) (rest := []) ⟨hx, hb, hml, hown, hg⟩ (k_X11_end l dC dI G _ ax hi T Y fa N B N1 B1 N2 B2 K S M E Z (xs (5 * k + 1))) (kwV hg mfX11_end wt_988 ⟨Nat.le_of_ble_eq_true rfl, Nat.le_of_ble_eq_true rfl⟩) (preVI hK hMI (hMI.recv hK)) rfl rfl hl.1 rfl (lv_room (Nat.le_of_ble_eq_true rfl)) dL_law_273 ⟨Nat.le_of_ble_eq_true rfl, Nat.le_of_ble_eq_true rfl⟩) hS (fun q _ h => ad_A hAx hA (by decide) hS q h) (ad_A hAx hA (by decide) hS) (fun r2 u2 t2 H2 locs2 ht2 hv2 w2 hB2 hz2 hk2 hS => ?_)
  have hXI := hXI.kept (fr_ad (lo := 112) (hi := 129) hi (by decide) (by decide) (by decide) hk2)
  have hMI : X11I dC dI G ax (if 0 ≤ (xs (5 * k + 1)).toInt ∧ (xs (5 * k + 1)).toInt ≤ ((T : Nat) : Int) then (xs (5 * k + 1)).toNatClampNeg else T) Y fa N B N1 B1 N2 B2 K S M E Z H2 := by rw [← ht2]; exact hB2
  refine W.widen (k := 129) (n := 4562) (by omega) (by omega) ?_
  refine lv_pop hx hb dL_law_276 rfl ?_
  refine lv_goto (tgt := 1381) hx hb dL_law_277 (by decide) ?_
  exact kk _ _ ⟨_, _, _, _, _, _, _, _, _, _, _, _, _, _, hXI, hMI⟩ hS

set_option maxHeartbeats 1000000 in
set_option maxRecDepth 100000 in
theorem lc_text {p : Program} {l : Launch} {e : Env} {s : State} {m : MethodId} {below : List Frame} {meth : Method} {c : Code} {b L : Nat} {xs : Nat → Int32} {dC : Nat → ClassId} {dI : Nat → Nat → Nat} {G : Nat → ClassId} {ax adK adV : Nat → Nat} {A : Nat → Prop} {Q : State → Prop} (C1 : lw_C p s m c b L xs dC dI G ax adK adV A) {k : Nat} (hk : 5 * k + 5 ≤ L) (hL : L ≤ 2560) {H : Heap} {locs : List Loc} {ls : Array Slot} (hI : LI dC dI G ax H) (hS : va_S A s.heap H locs) (hl : lv_has ls 4 [(3, .int (nI (5 * k))), (2, .ref (ax 112)), (1, .ref (ax 0)), (0, .ref b)]) (kk : ∀ (H : Heap) (locs : List Loc), LI dC dI G ax H → va_S A s.heap H locs → W p l e room_1 s m #[Value.ref b] below meth c H locs 129 4562 Q (F0 m 1381 ls [])) : W p l e room_1 s m #[Value.ref b] below meth c H locs 129 4562 Q (F0 m 280 ls []) := by
  obtain ⟨hx, hb, hml, hown, hg, hX, hbl, hbA, hK, hi, hAx, hA, hSS⟩ := C1
  obtain ⟨T, Y, fa, N, B, N1, B1, N2, B2, K, S, M, E, Z, hXI, hMI⟩ := hI
  refine lv_aload_n hx hb dL_law_280 rfl (lv_at hl 2 rfl) ?_
  refine va_calli (va_runV (As := []) (rest := []) ⟨hx, hb, hml, hown, hg⟩ (k_X10_textE l dC dI G _ ax hi T Y fa N B N1 B1 N2 B2 K S M E Z adK adV) (kwV hg mfX10_text wt_358 ⟨Nat.le_of_ble_eq_true rfl, Nat.le_of_ble_eq_true rfl⟩) (preVIS hK hXI (hXI.recv hK) hSS hS (ad_A hAx hA (by decide) hS)) rfl rfl hl.1 rfl (lv_room (Nat.le_of_ble_eq_true rfl)) dL_law_281 ⟨Nat.le_of_ble_eq_true rfl, Nat.le_of_ble_eq_true rfl⟩) hS (fun q _ h => ad_A hAx hA (by decide) hS q h) (ad_A hAx hA (by decide) hS) (fun r1 u1 t1 H1 locs1 ht1 hv1 w1 hB1 hz1 hk1 hS => ?_)
  have hMI := hMI.kept (fr_ad (lo := 0) (hi := 112) hi (by decide) (by decide) (by decide) hk1)
  have hXI : X10I dC dI G ax 0 Y (txF Y T) (txN Y T N) (txB Y T B) N1 B1 N2 B2 (txK Y T K) (txS Y T S) (txS Y T M) E Z H1 := by rw [← ht1]; exact hB1
  refine W.widen (k := 129) (n := 4562) (by omega) (by omega) ?_
  refine lv_aload_n hx hb dL_law_284 rfl (lv_at hl 1 rfl) ?_
  refine va_calli (va_runV (As := []) (rest := [.int r1]) ⟨hx, hb, hml, hown, hg⟩ (k_X11_textE l dC dI G _ ax hi T Y fa N B N1 B1 N2 B2 K S M E Z) (kwV hg mfX11_text wt_995 ⟨Nat.le_of_ble_eq_true rfl, Nat.le_of_ble_eq_true rfl⟩) (preVI hK hMI (hMI.recv hK)) rfl rfl hl.1 rfl (lv_room (Nat.le_of_ble_eq_true rfl)) dL_law_285 ⟨Nat.le_of_ble_eq_true rfl, Nat.le_of_ble_eq_true rfl⟩) hS (fun q _ h => ad_A hAx hA (by decide) hS q h) (ad_A hAx hA (by decide) hS) (fun r2 u2 t2 H2 locs2 ht2 hv2 w2 hB2 hz2 hk2 hS => ?_)
  have hXI := hXI.kept (fr_ad (lo := 112) (hi := 129) hi (by decide) (by decide) (by decide) hk2)
  have hMI : X11I dC dI G ax 0 Y (txF Y T) (txN Y T N) (txB Y T B) N1 B1 N2 B2 (txK Y T K) (txS Y T S) (txS Y T M) E Z H2 := by rw [← ht2]; exact hB2
  refine W.widen (k := 129) (n := 4562) (by omega) (by omega) ?_
  refine lv_icmp_eq (tgt := 1381) hx hb dL_law_288 (by decide) (fun c1 => ?_) (fun c1 => absurd (w1.trans w2.symm) c1)
  exact kk _ _ ⟨_, _, _, _, _, _, _, _, _, _, _, _, _, _, hXI, hMI⟩ hS

set_option maxHeartbeats 1000000 in
set_option maxRecDepth 100000 in
theorem lc_fault {p : Program} {l : Launch} {e : Env} {s : State} {m : MethodId} {below : List Frame} {meth : Method} {c : Code} {b L : Nat} {xs : Nat → Int32} {dC : Nat → ClassId} {dI : Nat → Nat → Nat} {G : Nat → ClassId} {ax adK adV : Nat → Nat} {A : Nat → Prop} {Q : State → Prop} (C1 : lw_C p s m c b L xs dC dI G ax adK adV A) {k : Nat} (hk : 5 * k + 5 ≤ L) (hL : L ≤ 2560) {H : Heap} {locs : List Loc} {ls : Array Slot} (hI : LI dC dI G ax H) (hS : va_S A s.heap H locs) (hl : lv_has ls 4 [(3, .int (nI (5 * k))), (2, .ref (ax 112)), (1, .ref (ax 0)), (0, .ref b)]) (kk : ∀ (H : Heap) (locs : List Loc), LI dC dI G ax H → va_S A s.heap H locs → W p l e room_1 s m #[Value.ref b] below meth c H locs 129 4562 Q (F0 m 1381 ls [])) : W p l e room_1 s m #[Value.ref b] below meth c H locs 129 4562 Q (F0 m 293 ls []) := by
  obtain ⟨hx, hb, hml, hown, hg, hX, hbl, hbA, hK, hi, hAx, hA, hSS⟩ := C1
  obtain ⟨T, Y, fa, N, B, N1, B1, N2, B2, K, S, M, E, Z, hXI, hMI⟩ := hI
  refine lv_aload_n hx hb dL_law_293 rfl (lv_at hl 2 rfl) ?_
  refine va_calli (va_runV (As := []) (rest := []) ⟨hx, hb, hml, hown, hg⟩ (k_X10_faultE l dC dI G _ ax hi T Y fa N B N1 B1 N2 B2 K S M E Z) (kwV hg mfX10_fault wt_515 ⟨Nat.le_of_ble_eq_true rfl, Nat.le_of_ble_eq_true rfl⟩) (preVI hK hXI (hXI.recv hK)) rfl rfl hl.1 rfl (lv_room (Nat.le_of_ble_eq_true rfl)) dL_law_294 ⟨Nat.le_of_ble_eq_true rfl, Nat.le_of_ble_eq_true rfl⟩) hS (fun q _ h => ad_A hAx hA (by decide) hS q h) (ad_A hAx hA (by decide) hS) (fun r1 u1 t1 H1 locs1 ht1 hv1 w1 hB1 hz1 hk1 hS => ?_)
  have hMI := hMI.kept (fr_ad (lo := 0) (hi := 112) hi (by decide) (by decide) (by decide) hk1)
  have hXI : X10I dC dI G ax T Y fa N B N1 B1 N2 B2 K S M E Z H1 := by rw [← ht1]; exact hB1
  refine W.widen (k := 129) (n := 4562) (by omega) (by omega) ?_
  refine lv_pop hx hb dL_law_297 rfl ?_
  refine lv_aload_n hx hb dL_law_298 rfl (lv_at hl 1 rfl) ?_
  refine va_calli (va_runV (As := []) (rest := []) ⟨hx, hb, hml, hown, hg⟩ (k_X11_faultE l dC dI G _ ax hi T Y fa N B N1 B1 N2 B2 K S M E Z) (kwV hg mfX11_fault wt_1036 ⟨Nat.le_of_ble_eq_true rfl, Nat.le_of_ble_eq_true rfl⟩) (preVI hK hMI (hMI.recv hK)) rfl rfl hl.1 rfl (lv_room (Nat.le_of_ble_eq_true rfl)) dL_law_299 ⟨Nat.le_of_ble_eq_true rfl, Nat.le_of_ble_eq_true rfl⟩) hS (fun q _ h => ad_A hAx hA (by decide) hS q h) (ad_A hAx hA (by decide) hS) (fun r2 u2 t2 H2 locs2 ht2 hv2 w2 hB2 hz2 hk2 hS => ?_)
  have hXI := hXI.kept (fr_ad (lo := 112) (hi := 129) hi (by decide) (by decide) (by decide) hk2)
  have hMI : X11I dC dI G ax T Y fa N B N1 B1 N2 B2 K S M E Z H2 := by rw [← ht2]; exact hB2
  refine W.widen (k := 129) (n := 4562) (by omega) (by omega) ?_
  refine lv_pop hx hb dL_law_302 rfl ?_
  refine lv_goto (tgt := 1381) hx hb dL_law_303 (by decide) ?_
  exact kk _ _ ⟨_, _, _, _, _, _, _, _, _, _, _, _, _, _, hXI, hMI⟩ hS

set_option maxHeartbeats 1000000 in
set_option maxRecDepth 100000 in
theorem lc_rule {p : Program} {l : Launch} {e : Env} {s : State} {m : MethodId} {below : List Frame} {meth : Method} {c : Code} {b L : Nat} {xs : Nat → Int32} {dC : Nat → ClassId} {dI : Nat → Nat → Nat} {G : Nat → ClassId} {ax adK adV : Nat → Nat} {A : Nat → Prop} {Q : State → Prop} (C1 : lw_C p s m c b L xs dC dI G ax adK adV A) {k : Nat} (hk : 5 * k + 5 ≤ L) (hL : L ≤ 2560) {H : Heap} {locs : List Loc} {ls : Array Slot} (hI : LI dC dI G ax H) (hS : va_S A s.heap H locs) (hl : lv_has ls 4 [(3, .int (nI (5 * k))), (2, .ref (ax 112)), (1, .ref (ax 0)), (0, .ref b)]) (kk : ∀ (H : Heap) (locs : List Loc), LI dC dI G ax H → va_S A s.heap H locs → W p l e room_1 s m #[Value.ref b] below meth c H locs 129 4562 Q (F0 m 1381 ls [])) : W p l e room_1 s m #[Value.ref b] below meth c H locs 129 4562 Q (F0 m 306 ls []) := by
  obtain ⟨hx, hb, hml, hown, hg, hX, hbl, hbA, hK, hi, hAx, hA, hSS⟩ := C1
  obtain ⟨T, Y, fa, N, B, N1, B1, N2, B2, K, S, M, E, Z, hXI, hMI⟩ := hI
  refine lv_aload_n hx hb dL_law_306 rfl (lv_at hl 2 rfl) ?_
  refine lv_aload_n hx hb dL_law_307 rfl (lv_at hl 3 rfl) ?_
  refine lv_iload_n hx hb dL_law_308 rfl (lv_at hl 0 rfl) ?_
  refine lv_iconst (v := 1) hx hb dL_law_309 (by decide) ?_
  refine lv_iadd hx hb dL_law_310 ?_
  refine lv_cg (y := nI (5 * k + 1)) (by rw [show (1 : Int32) = nI 1 from rfl]; exact nI_add _ _) ?_
  refine va_sld hx hb hX hbl hbA hS (vp_in_nI (by omega) (by omega)) dL_law_311 ?_
  refine lv_cg (y := xs (5 * k + 1)) (by rw [nI_clamp (by omega)]) ?_
  refine va_calli (va_runV (As := [.int (xs (5 * k + 1))]) (rest := []) ⟨hx, hb, hml, hown, hg⟩ (k_X10_rule l dC dI G _ ax hi T Y fa N B N1 B1 N2 B2 K S M E Z (xs (5 * k + 1))) (kwV hg mfX10_rule wt_519 ⟨Nat.le_of_ble_eq_true rfl, Nat.le_of_ble_eq_true rfl⟩) (preVI hK hXI (hXI.recv hK)) rfl rfl hl.1 rfl (lv_room (Nat.le_of_ble_eq_true rfl)) dL_law_312 ⟨Nat.le_of_ble_eq_true rfl, Nat.le_of_ble_eq_true rfl⟩) hS (fun q _ h => ad_A hAx hA (by decide) hS q h) (ad_A hAx hA (by decide) hS) (fun r1 u1 t1 H1 locs1 ht1 hv1 w1 hB1 hz1 hk1 hS => ?_)
  have hMI := hMI.kept (fr_ad (lo := 0) (hi := 112) hi (by decide) (by decide) (by decide) hk1)
  have hXI : X10I dC dI G ax T Y fa N B N1 B1 N2 B2 K S M E Z H1 := by rw [← ht1]; exact hB1
  refine W.widen (k := 129) (n := 4562) (by omega) (by omega) ?_
  refine lv_pop hx hb dL_law_315 rfl ?_
  refine lv_aload_n hx hb dL_law_316 rfl (lv_at hl 1 rfl) ?_
  refine lv_aload_n hx hb dL_law_317 rfl (lv_at hl 3 rfl) ?_
  refine lv_iload_n hx hb dL_law_318 rfl (lv_at hl 0 rfl) ?_
  refine lv_iconst (v := 1) hx hb dL_law_319 (by decide) ?_
  refine lv_iadd hx hb dL_law_320 ?_
  refine lv_cg (y := nI (5 * k + 1)) (by rw [show (1 : Int32) = nI 1 from rfl]; exact nI_add _ _) ?_
  refine va_sld hx hb hX hbl hbA hS (vp_in_nI (by omega) (by omega)) dL_law_321 ?_
  refine lv_cg (y := xs (5 * k + 1)) (by rw [nI_clamp (by omega)]) ?_
  refine va_calli (va_runV (As := [.int (xs (5 * k + 1))]) (rest := []) ⟨hx, hb, hml, hown, hg⟩ (k_X11_rule l dC dI G _ ax hi T Y fa N B N1 B1 N2 B2 K S M E Z (xs (5 * k + 1))) (kwV hg mfX11_rule wt_1040 ⟨Nat.le_of_ble_eq_true rfl, Nat.le_of_ble_eq_true rfl⟩) (preVI hK hMI (hMI.recv hK)) rfl rfl hl.1 rfl (lv_room (Nat.le_of_ble_eq_true rfl)) dL_law_322 ⟨Nat.le_of_ble_eq_true rfl, Nat.le_of_ble_eq_true rfl⟩) hS (fun q _ h => ad_A hAx hA (by decide) hS q h) (ad_A hAx hA (by decide) hS) (fun r2 u2 t2 H2 locs2 ht2 hv2 w2 hB2 hz2 hk2 hS => ?_)
  have hXI := hXI.kept (fr_ad (lo := 112) (hi := 129) hi (by decide) (by decide) (by decide) hk2)
  have hMI : X11I dC dI G ax T Y fa N B N1 B1 N2 B2 K S M E Z H2 := by rw [← ht2]; exact hB2
  refine W.widen (k := 129) (n := 4562) (by omega) (by omega) ?_
  refine lv_pop hx hb dL_law_325 rfl ?_
  refine lv_goto (tgt := 1381) hx hb dL_law_326 (by decide) ?_
  exact kk _ _ ⟨_, _, _, _, _, _, _, _, _, _, _, _, _, _, hXI, hMI⟩ hS

set_option maxHeartbeats 1000000 in
set_option maxRecDepth 100000 in
theorem lc_stretch {p : Program} {l : Launch} {e : Env} {s : State} {m : MethodId} {below : List Frame} {meth : Method} {c : Code} {b L : Nat} {xs : Nat → Int32} {dC : Nat → ClassId} {dI : Nat → Nat → Nat} {G : Nat → ClassId} {ax adK adV : Nat → Nat} {A : Nat → Prop} {Q : State → Prop} (C1 : lw_C p s m c b L xs dC dI G ax adK adV A) {k : Nat} (hk : 5 * k + 5 ≤ L) (hL : L ≤ 2560) {H : Heap} {locs : List Loc} {ls : Array Slot} (hI : LI dC dI G ax H) (hS : va_S A s.heap H locs) (hl : lv_has ls 4 [(3, .int (nI (5 * k))), (2, .ref (ax 112)), (1, .ref (ax 0)), (0, .ref b)]) (kk : ∀ (H : Heap) (locs : List Loc), LI dC dI G ax H → va_S A s.heap H locs → W p l e room_1 s m #[Value.ref b] below meth c H locs 129 4562 Q (F0 m 1381 ls [])) : W p l e room_1 s m #[Value.ref b] below meth c H locs 129 4562 Q (F0 m 329 ls []) := by
  obtain ⟨hx, hb, hml, hown, hg, hX, hbl, hbA, hK, hi, hAx, hA, hSS⟩ := C1
  obtain ⟨T, Y, fa, N, B, N1, B1, N2, B2, K, S, M, E, Z, hXI, hMI⟩ := hI
  refine lv_aload_n hx hb dL_law_329 rfl (lv_at hl 2 rfl) ?_
  refine lv_aload_n hx hb dL_law_330 rfl (lv_at hl 3 rfl) ?_
  refine lv_iload_n hx hb dL_law_331 rfl (lv_at hl 0 rfl) ?_
  refine lv_iconst (v := 1) hx hb dL_law_332 (by decide) ?_
  refine lv_iadd hx hb dL_law_333 ?_
  refine lv_cg (y := nI (5 * k + 1)) (by rw [show (1 : Int32) = nI 1 from rfl]; exact nI_add _ _) ?_
  refine va_sld hx hb hX hbl hbA hS (vp_in_nI (by omega) (by omega)) dL_law_334 ?_
  refine lv_cg (y := xs (5 * k + 1)) (by rw [nI_clamp (by omega)]) ?_
  refine lv_aload_n hx hb dL_law_335 rfl (lv_at hl 3 rfl) ?_
  refine lv_iload_n hx hb dL_law_336 rfl (lv_at hl 0 rfl) ?_
  refine lv_iconst (v := 2) hx hb dL_law_337 (by decide) ?_
  refine lv_iadd hx hb dL_law_338 ?_
  refine lv_cg (y := nI (5 * k + 2)) (by rw [show (2 : Int32) = nI 2 from rfl]; exact nI_add _ _) ?_
  refine va_sld hx hb hX hbl hbA hS (vp_in_nI (by omega) (by omega)) dL_law_339 ?_
  refine lv_cg (y := xs (5 * k + 2)) (by rw [nI_clamp (by omega)]) ?_
  refine va_calli (va_runV (As := [.int (xs (5 * k + 1)), .int (xs (5 * k + 2))]) (rest := []) ⟨hx, hb, hml, hown, hg⟩ (k_X10_stretch l dC dI G _ ax hi T Y fa N B N1 B1 N2 B2 K S M E Z (xs (5 * k + 1)) (xs (5 * k + 2))) (kwV hg mfX10_stretch wt_523 ⟨Nat.le_of_ble_eq_true rfl, Nat.le_of_ble_eq_true rfl⟩) (preVI hK hXI (hXI.recv hK)) rfl rfl hl.1 rfl (lv_room (Nat.le_of_ble_eq_true rfl)) dL_law_340 ⟨Nat.le_of_ble_eq_true rfl, Nat.le_of_ble_eq_true rfl⟩) hS (fun q _ h => ad_A hAx hA (by decide) hS q h) (ad_A hAx hA (by decide) hS) (fun r1 u1 t1 H1 locs1 ht1 hv1 w1 hB1 hz1 hk1 hS => ?_)
  have hMI := hMI.kept (fr_ad (lo := 0) (hi := 112) hi (by decide) (by decide) (by decide) hk1)
  have hXI : X10I dC dI G ax T Y fa N B N1 B1 N2 B2 K S M E Z H1 := by rw [← ht1]; exact hB1
  refine W.widen (k := 129) (n := 4562) (by omega) (by omega) ?_
  refine lv_pop hx hb dL_law_343 rfl ?_
  refine lv_aload_n hx hb dL_law_344 rfl (lv_at hl 1 rfl) ?_
  refine lv_aload_n hx hb dL_law_345 rfl (lv_at hl 3 rfl) ?_
  refine lv_iload_n hx hb dL_law_346 rfl (lv_at hl 0 rfl) ?_
  refine lv_iconst (v := 1) hx hb dL_law_347 (by decide) ?_
  refine lv_iadd hx hb dL_law_348 ?_
  refine lv_cg (y := nI (5 * k + 1)) (by rw [show (1 : Int32) = nI 1 from rfl]; exact nI_add _ _) ?_
  refine va_sld hx hb hX hbl hbA hS (vp_in_nI (by omega) (by omega)) dL_law_349 ?_
  refine lv_cg (y := xs (5 * k + 1)) (by rw [nI_clamp (by omega)]) ?_
  refine lv_aload_n hx hb dL_law_350 rfl (lv_at hl 3 rfl) ?_
  refine lv_iload_n hx hb dL_law_351 rfl (lv_at hl 0 rfl) ?_
  refine lv_iconst (v := 2) hx hb dL_law_352 (by decide) ?_
  refine lv_iadd hx hb dL_law_353 ?_
  refine lv_cg (y := nI (5 * k + 2)) (by rw [show (2 : Int32) = nI 2 from rfl]; exact nI_add _ _) ?_
  refine va_sld hx hb hX hbl hbA hS (vp_in_nI (by omega) (by omega)) dL_law_354 ?_
  refine lv_cg (y := xs (5 * k + 2)) (by rw [nI_clamp (by omega)]) ?_
  refine va_calli (va_runV (As := [.int (xs (5 * k + 1)), .int (xs (5 * k + 2))]) (rest := []) ⟨hx, hb, hml, hown, hg⟩ (k_X11_stretch l dC dI G _ ax hi T Y fa N B N1 B1 N2 B2 K S M E Z (xs (5 * k + 1)) (xs (5 * k + 2))) (kwV hg mfX11_stretch wt_1048 ⟨Nat.le_of_ble_eq_true rfl, Nat.le_of_ble_eq_true rfl⟩) (preVI hK hMI (hMI.recv hK)) rfl rfl hl.1 rfl (lv_room (Nat.le_of_ble_eq_true rfl)) dL_law_355 ⟨Nat.le_of_ble_eq_true rfl, Nat.le_of_ble_eq_true rfl⟩) hS (fun q _ h => ad_A hAx hA (by decide) hS q h) (ad_A hAx hA (by decide) hS) (fun r2 u2 t2 H2 locs2 ht2 hv2 w2 hB2 hz2 hk2 hS => ?_)
  have hXI := hXI.kept (fr_ad (lo := 112) (hi := 129) hi (by decide) (by decide) (by decide) hk2)
  have hMI : X11I dC dI G ax T Y fa N B N1 B1 N2 B2 K S M E Z H2 := by rw [← ht2]; exact hB2
  refine W.widen (k := 129) (n := 4562) (by omega) (by omega) ?_
  refine lv_pop hx hb dL_law_358 rfl ?_
  refine lv_goto (tgt := 1381) hx hb dL_law_359 (by decide) ?_
  exact kk _ _ ⟨_, _, _, _, _, _, _, _, _, _, _, _, _, _, hXI, hMI⟩ hS

set_option maxHeartbeats 1000000 in
set_option maxRecDepth 100000 in
theorem lc_bearer {p : Program} {l : Launch} {e : Env} {s : State} {m : MethodId} {below : List Frame} {meth : Method} {c : Code} {b L : Nat} {xs : Nat → Int32} {dC : Nat → ClassId} {dI : Nat → Nat → Nat} {G : Nat → ClassId} {ax adK adV : Nat → Nat} {A : Nat → Prop} {Q : State → Prop} (C1 : lw_C p s m c b L xs dC dI G ax adK adV A) {k : Nat} (hk : 5 * k + 5 ≤ L) (hL : L ≤ 2560) {H : Heap} {locs : List Loc} {ls : Array Slot} (hI : LI dC dI G ax H) (hS : va_S A s.heap H locs) (hl : lv_has ls 4 [(3, .int (nI (5 * k))), (2, .ref (ax 112)), (1, .ref (ax 0)), (0, .ref b)]) (kk : ∀ (H : Heap) (locs : List Loc), LI dC dI G ax H → va_S A s.heap H locs → W p l e room_1 s m #[Value.ref b] below meth c H locs 129 4562 Q (F0 m 1381 ls [])) : W p l e room_1 s m #[Value.ref b] below meth c H locs 129 4562 Q (F0 m 362 ls []) := by
  obtain ⟨hx, hb, hml, hown, hg, hX, hbl, hbA, hK, hi, hAx, hA, hSS⟩ := C1
  obtain ⟨T, Y, fa, N, B, N1, B1, N2, B2, K, S, M, E, Z, hXI, hMI⟩ := hI
  refine lv_aload_n hx hb dL_law_362 rfl (lv_at hl 2 rfl) ?_
  refine lv_aload_n hx hb dL_law_363 rfl (lv_at hl 3 rfl) ?_
  refine lv_iload_n hx hb dL_law_364 rfl (lv_at hl 0 rfl) ?_
  refine lv_iconst (v := 1) hx hb dL_law_365 (by decide) ?_
  refine lv_iadd hx hb dL_law_366 ?_
  refine lv_cg (y := nI (5 * k + 1)) (by rw [show (1 : Int32) = nI 1 from rfl]; exact nI_add _ _) ?_
  refine va_sld hx hb hX hbl hbA hS (vp_in_nI (by omega) (by omega)) dL_law_367 ?_
  refine lv_cg (y := xs (5 * k + 1)) (by rw [nI_clamp (by omega)]) ?_
  refine lv_aload_n hx hb dL_law_368 rfl (lv_at hl 3 rfl) ?_
  refine lv_iload_n hx hb dL_law_369 rfl (lv_at hl 0 rfl) ?_
  refine lv_iconst (v := 2) hx hb dL_law_370 (by decide) ?_
  refine lv_iadd hx hb dL_law_371 ?_
  refine lv_cg (y := nI (5 * k + 2)) (by rw [show (2 : Int32) = nI 2 from rfl]; exact nI_add _ _) ?_
  refine va_sld hx hb hX hbl hbA hS (vp_in_nI (by omega) (by omega)) dL_law_372 ?_
  refine lv_cg (y := xs (5 * k + 2)) (by rw [nI_clamp (by omega)]) ?_
  refine va_calli (va_runV (As := [.int (xs (5 * k + 1)), .int (xs (5 * k + 2))]) (rest := []) ⟨hx, hb, hml, hown, hg⟩ (k_X10_bearer l dC dI G _ ax hi T Y fa N B N1 B1 N2 B2 K S M E Z (xs (5 * k + 1)) (xs (5 * k + 2))) (kwV hg mfX10_bearer wt_531 ⟨Nat.le_of_ble_eq_true rfl, Nat.le_of_ble_eq_true rfl⟩) (preVI hK hXI (hXI.recv hK)) rfl rfl hl.1 rfl (lv_room (Nat.le_of_ble_eq_true rfl)) dL_law_373 ⟨Nat.le_of_ble_eq_true rfl, Nat.le_of_ble_eq_true rfl⟩) hS (fun q _ h => ad_A hAx hA (by decide) hS q h) (ad_A hAx hA (by decide) hS) (fun r1 u1 t1 H1 locs1 ht1 hv1 w1 hB1 hz1 hk1 hS => ?_)
  have hMI := hMI.kept (fr_ad (lo := 0) (hi := 112) hi (by decide) (by decide) (by decide) hk1)
  have hXI : X10I dC dI G ax T Y fa N B N1 B1 N2 B2 K S M E Z H1 := by rw [← ht1]; exact hB1
  refine W.widen (k := 129) (n := 4562) (by omega) (by omega) ?_
  refine lv_pop hx hb dL_law_376 rfl ?_
  refine lv_aload_n hx hb dL_law_377 rfl (lv_at hl 1 rfl) ?_
  refine lv_aload_n hx hb dL_law_378 rfl (lv_at hl 3 rfl) ?_
  refine lv_iload_n hx hb dL_law_379 rfl (lv_at hl 0 rfl) ?_
  refine lv_iconst (v := 1) hx hb dL_law_380 (by decide) ?_
  refine lv_iadd hx hb dL_law_381 ?_
  refine lv_cg (y := nI (5 * k + 1)) (by rw [show (1 : Int32) = nI 1 from rfl]; exact nI_add _ _) ?_
  refine va_sld hx hb hX hbl hbA hS (vp_in_nI (by omega) (by omega)) dL_law_382 ?_
  refine lv_cg (y := xs (5 * k + 1)) (by rw [nI_clamp (by omega)]) ?_
  refine lv_aload_n hx hb dL_law_383 rfl (lv_at hl 3 rfl) ?_
  refine lv_iload_n hx hb dL_law_384 rfl (lv_at hl 0 rfl) ?_
  refine lv_iconst (v := 2) hx hb dL_law_385 (by decide) ?_
  refine lv_iadd hx hb dL_law_386 ?_
  refine lv_cg (y := nI (5 * k + 2)) (by rw [show (2 : Int32) = nI 2 from rfl]; exact nI_add _ _) ?_
  refine va_sld hx hb hX hbl hbA hS (vp_in_nI (by omega) (by omega)) dL_law_387 ?_
  refine lv_cg (y := xs (5 * k + 2)) (by rw [nI_clamp (by omega)]) ?_
  refine va_calli (va_runV (As := [.int (xs (5 * k + 1)), .int (xs (5 * k + 2))]) (rest := []) ⟨hx, hb, hml, hown, hg⟩ (k_X11_bearer l dC dI G _ ax hi T Y fa N B N1 B1 N2 B2 K S M E Z (xs (5 * k + 1)) (xs (5 * k + 2))) (kwV hg mfX11_bearer wt_1057 ⟨Nat.le_of_ble_eq_true rfl, Nat.le_of_ble_eq_true rfl⟩) (preVI hK hMI (hMI.recv hK)) rfl rfl hl.1 rfl (lv_room (Nat.le_of_ble_eq_true rfl)) dL_law_388 ⟨Nat.le_of_ble_eq_true rfl, Nat.le_of_ble_eq_true rfl⟩) hS (fun q _ h => ad_A hAx hA (by decide) hS q h) (ad_A hAx hA (by decide) hS) (fun r2 u2 t2 H2 locs2 ht2 hv2 w2 hB2 hz2 hk2 hS => ?_)
  have hXI := hXI.kept (fr_ad (lo := 112) (hi := 129) hi (by decide) (by decide) (by decide) hk2)
  have hMI : X11I dC dI G ax T Y fa N B N1 B1 N2 B2 K S M E Z H2 := by rw [← ht2]; exact hB2
  refine W.widen (k := 129) (n := 4562) (by omega) (by omega) ?_
  refine lv_pop hx hb dL_law_391 rfl ?_
  refine lv_goto (tgt := 1381) hx hb dL_law_392 (by decide) ?_
  exact kk _ _ ⟨_, _, _, _, _, _, _, _, _, _, _, _, _, _, hXI, hMI⟩ hS

set_option maxHeartbeats 1000000 in
set_option maxRecDepth 100000 in
theorem lc_start {p : Program} {l : Launch} {e : Env} {s : State} {m : MethodId} {below : List Frame} {meth : Method} {c : Code} {b L : Nat} {xs : Nat → Int32} {dC : Nat → ClassId} {dI : Nat → Nat → Nat} {G : Nat → ClassId} {ax adK adV : Nat → Nat} {A : Nat → Prop} {Q : State → Prop} (C1 : lw_C p s m c b L xs dC dI G ax adK adV A) {k : Nat} (hk : 5 * k + 5 ≤ L) (hL : L ≤ 2560) {H : Heap} {locs : List Loc} {ls : Array Slot} (hI : LI dC dI G ax H) (hS : va_S A s.heap H locs) (hl : lv_has ls 4 [(3, .int (nI (5 * k))), (2, .ref (ax 112)), (1, .ref (ax 0)), (0, .ref b)]) (kk : ∀ (H : Heap) (locs : List Loc), LI dC dI G ax H → va_S A s.heap H locs → W p l e room_1 s m #[Value.ref b] below meth c H locs 129 4562 Q (F0 m 1381 ls [])) : W p l e room_1 s m #[Value.ref b] below meth c H locs 129 4562 Q (F0 m 395 ls []) := by
  obtain ⟨hx, hb, hml, hown, hg, hX, hbl, hbA, hK, hi, hAx, hA, hSS⟩ := C1
  obtain ⟨T, Y, fa, N, B, N1, B1, N2, B2, K, S, M, E, Z, hXI, hMI⟩ := hI
  refine lv_aload_n hx hb dL_law_395 rfl (lv_at hl 2 rfl) ?_
  refine lv_aload_n hx hb dL_law_396 rfl (lv_at hl 3 rfl) ?_
  refine lv_iload_n hx hb dL_law_397 rfl (lv_at hl 0 rfl) ?_
  refine lv_iconst (v := 1) hx hb dL_law_398 (by decide) ?_
  refine lv_iadd hx hb dL_law_399 ?_
  refine lv_cg (y := nI (5 * k + 1)) (by rw [show (1 : Int32) = nI 1 from rfl]; exact nI_add _ _) ?_
  refine va_sld hx hb hX hbl hbA hS (vp_in_nI (by omega) (by omega)) dL_law_400 ?_
  refine lv_cg (y := xs (5 * k + 1)) (by rw [nI_clamp (by omega)]) ?_
  refine va_calli (va_runV (As := [.int (xs (5 * k + 1))]) (rest := []) ⟨hx, hb, hml, hown, hg⟩ (k_X10_start l dC dI G _ ax hi T Y fa N B N1 B1 N2 B2 K S M E Z (xs (5 * k + 1))) (kwV hg mfX10_start wt_539 ⟨Nat.le_of_ble_eq_true rfl, Nat.le_of_ble_eq_true rfl⟩) (preVI hK hXI (hXI.recv hK)) rfl rfl hl.1 rfl (lv_room (Nat.le_of_ble_eq_true rfl)) dL_law_401 ⟨Nat.le_of_ble_eq_true rfl, Nat.le_of_ble_eq_true rfl⟩) hS (fun q _ h => ad_A hAx hA (by decide) hS q h) (ad_A hAx hA (by decide) hS) (fun r1 u1 t1 H1 locs1 ht1 hv1 w1 hB1 hz1 hk1 hS => ?_)
  have hMI := hMI.kept (fr_ad (lo := 0) (hi := 112) hi (by decide) (by decide) (by decide) hk1)
  have hXI : X10I dC dI G ax T Y fa N B N1 B1 N2 B2 K S M E Z H1 := by rw [← ht1]; exact hB1
  refine W.widen (k := 129) (n := 4562) (by omega) (by omega) ?_
  refine lv_pop hx hb dL_law_404 rfl ?_
  refine lv_aload_n hx hb dL_law_405 rfl (lv_at hl 1 rfl) ?_
  refine lv_aload_n hx hb dL_law_406 rfl (lv_at hl 3 rfl) ?_
  refine lv_iload_n hx hb dL_law_407 rfl (lv_at hl 0 rfl) ?_
  refine lv_iconst (v := 1) hx hb dL_law_408 (by decide) ?_
  refine lv_iadd hx hb dL_law_409 ?_
  refine lv_cg (y := nI (5 * k + 1)) (by rw [show (1 : Int32) = nI 1 from rfl]; exact nI_add _ _) ?_
  refine va_sld hx hb hX hbl hbA hS (vp_in_nI (by omega) (by omega)) dL_law_410 ?_
  refine lv_cg (y := xs (5 * k + 1)) (by rw [nI_clamp (by omega)]) ?_
  refine va_calli (va_runV (As := [.int (xs (5 * k + 1))]) (rest := []) ⟨hx, hb, hml, hown, hg⟩ (k_X11_start l dC dI G _ ax hi T Y fa N B N1 B1 N2 B2 K S M E Z (xs (5 * k + 1))) (kwV hg mfX11_start wt_1065 ⟨Nat.le_of_ble_eq_true rfl, Nat.le_of_ble_eq_true rfl⟩) (preVI hK hMI (hMI.recv hK)) rfl rfl hl.1 rfl (lv_room (Nat.le_of_ble_eq_true rfl)) dL_law_411 ⟨Nat.le_of_ble_eq_true rfl, Nat.le_of_ble_eq_true rfl⟩) hS (fun q _ h => ad_A hAx hA (by decide) hS q h) (ad_A hAx hA (by decide) hS) (fun r2 u2 t2 H2 locs2 ht2 hv2 w2 hB2 hz2 hk2 hS => ?_)
  have hXI := hXI.kept (fr_ad (lo := 112) (hi := 129) hi (by decide) (by decide) (by decide) hk2)
  have hMI : X11I dC dI G ax T Y fa N B N1 B1 N2 B2 K S M E Z H2 := by rw [← ht2]; exact hB2
  refine W.widen (k := 129) (n := 4562) (by omega) (by omega) ?_
  refine lv_pop hx hb dL_law_414 rfl ?_
  refine lv_goto (tgt := 1381) hx hb dL_law_415 (by decide) ?_
  exact kk _ _ ⟨_, _, _, _, _, _, _, _, _, _, _, _, _, _, hXI, hMI⟩ hS

set_option maxHeartbeats 1000000 in
set_option maxRecDepth 100000 in
theorem lc_noise {p : Program} {l : Launch} {e : Env} {s : State} {m : MethodId} {below : List Frame} {meth : Method} {c : Code} {b L : Nat} {xs : Nat → Int32} {dC : Nat → ClassId} {dI : Nat → Nat → Nat} {G : Nat → ClassId} {ax adK adV : Nat → Nat} {A : Nat → Prop} {Q : State → Prop} (C1 : lw_C p s m c b L xs dC dI G ax adK adV A) {k : Nat} (hk : 5 * k + 5 ≤ L) (hL : L ≤ 2560) {H : Heap} {locs : List Loc} {ls : Array Slot} (hI : LI dC dI G ax H) (hS : va_S A s.heap H locs) (hl : lv_has ls 4 [(3, .int (nI (5 * k))), (2, .ref (ax 112)), (1, .ref (ax 0)), (0, .ref b)]) (kk : ∀ (H : Heap) (locs : List Loc), LI dC dI G ax H → va_S A s.heap H locs → W p l e room_1 s m #[Value.ref b] below meth c H locs 129 4562 Q (F0 m 1381 ls [])) : W p l e room_1 s m #[Value.ref b] below meth c H locs 129 4562 Q (F0 m 418 ls []) := by
  obtain ⟨hx, hb, hml, hown, hg, hX, hbl, hbA, hK, hi, hAx, hA, hSS⟩ := C1
  obtain ⟨T, Y, fa, N, B, N1, B1, N2, B2, K, S, M, E, Z, hXI, hMI⟩ := hI
  refine lv_aload_n hx hb dL_law_418 rfl (lv_at hl 2 rfl) ?_
  refine lv_aload_n hx hb dL_law_419 rfl (lv_at hl 3 rfl) ?_
  refine lv_iload_n hx hb dL_law_420 rfl (lv_at hl 0 rfl) ?_
  refine lv_iconst (v := 1) hx hb dL_law_421 (by decide) ?_
  refine lv_iadd hx hb dL_law_422 ?_
  refine lv_cg (y := nI (5 * k + 1)) (by rw [show (1 : Int32) = nI 1 from rfl]; exact nI_add _ _) ?_
  refine va_sld hx hb hX hbl hbA hS (vp_in_nI (by omega) (by omega)) dL_law_423 ?_
  refine lv_cg (y := xs (5 * k + 1)) (by rw [nI_clamp (by omega)]) ?_
  refine lv_aload_n hx hb dL_law_424 rfl (lv_at hl 3 rfl) ?_
  refine lv_iload_n hx hb dL_law_425 rfl (lv_at hl 0 rfl) ?_
  refine lv_iconst (v := 2) hx hb dL_law_426 (by decide) ?_
  refine lv_iadd hx hb dL_law_427 ?_
  refine lv_cg (y := nI (5 * k + 2)) (by rw [show (2 : Int32) = nI 2 from rfl]; exact nI_add _ _) ?_
  refine va_sld hx hb hX hbl hbA hS (vp_in_nI (by omega) (by omega)) dL_law_428 ?_
  refine lv_cg (y := xs (5 * k + 2)) (by rw [nI_clamp (by omega)]) ?_
  refine va_calli (va_runV (As := [.int (xs (5 * k + 1)), .int (xs (5 * k + 2))]) (rest := []) ⟨hx, hb, hml, hown, hg⟩ (k_X10_noise l dC dI G _ ax hi T Y fa N B N1 B1 N2 B2 K S M E Z (xs (5 * k + 1)) (xs (5 * k + 2))) (kwV hg mfX10_noise wt_543 ⟨Nat.le_of_ble_eq_true rfl, Nat.le_of_ble_eq_true rfl⟩) (preVI hK hXI (hXI.recv hK)) rfl rfl hl.1 rfl (lv_room (Nat.le_of_ble_eq_true rfl)) dL_law_429 ⟨Nat.le_of_ble_eq_true rfl, Nat.le_of_ble_eq_true rfl⟩) hS (fun q _ h => ad_A hAx hA (by decide) hS q h) (ad_A hAx hA (by decide) hS) (fun r1 u1 t1 H1 locs1 ht1 hv1 w1 hB1 hz1 hk1 hS => ?_)
  have hMI := hMI.kept (fr_ad (lo := 0) (hi := 112) hi (by decide) (by decide) (by decide) hk1)
  have hXI : X10I dC dI G ax T Y fa N B N1 B1 N2 B2 K S M E Z H1 := by rw [← ht1]; exact hB1
  refine W.widen (k := 129) (n := 4562) (by omega) (by omega) ?_
  refine lv_pop hx hb dL_law_432 rfl ?_
  refine lv_aload_n hx hb dL_law_433 rfl (lv_at hl 1 rfl) ?_
  refine lv_aload_n hx hb dL_law_434 rfl (lv_at hl 3 rfl) ?_
  refine lv_iload_n hx hb dL_law_435 rfl (lv_at hl 0 rfl) ?_
  refine lv_iconst (v := 1) hx hb dL_law_436 (by decide) ?_
  refine lv_iadd hx hb dL_law_437 ?_
  refine lv_cg (y := nI (5 * k + 1)) (by rw [show (1 : Int32) = nI 1 from rfl]; exact nI_add _ _) ?_
  refine va_sld hx hb hX hbl hbA hS (vp_in_nI (by omega) (by omega)) dL_law_438 ?_
  refine lv_cg (y := xs (5 * k + 1)) (by rw [nI_clamp (by omega)]) ?_
  refine lv_aload_n hx hb dL_law_439 rfl (lv_at hl 3 rfl) ?_
  refine lv_iload_n hx hb dL_law_440 rfl (lv_at hl 0 rfl) ?_
  refine lv_iconst (v := 2) hx hb dL_law_441 (by decide) ?_
  refine lv_iadd hx hb dL_law_442 ?_
  refine lv_cg (y := nI (5 * k + 2)) (by rw [show (2 : Int32) = nI 2 from rfl]; exact nI_add _ _) ?_
  refine va_sld hx hb hX hbl hbA hS (vp_in_nI (by omega) (by omega)) dL_law_443 ?_
  refine lv_cg (y := xs (5 * k + 2)) (by rw [nI_clamp (by omega)]) ?_
  refine va_calli (va_runV (As := [.int (xs (5 * k + 1)), .int (xs (5 * k + 2))]) (rest := []) ⟨hx, hb, hml, hown, hg⟩ (k_X11_noise l dC dI G _ ax hi T Y fa N B N1 B1 N2 B2 K S M E Z (xs (5 * k + 1)) (xs (5 * k + 2))) (kwV hg mfX11_noise wt_1074 ⟨Nat.le_of_ble_eq_true rfl, Nat.le_of_ble_eq_true rfl⟩) (preVI hK hMI (hMI.recv hK)) rfl rfl hl.1 rfl (lv_room (Nat.le_of_ble_eq_true rfl)) dL_law_444 ⟨Nat.le_of_ble_eq_true rfl, Nat.le_of_ble_eq_true rfl⟩) hS (fun q _ h => ad_A hAx hA (by decide) hS q h) (ad_A hAx hA (by decide) hS) (fun r2 u2 t2 H2 locs2 ht2 hv2 w2 hB2 hz2 hk2 hS => ?_)
  have hXI := hXI.kept (fr_ad (lo := 112) (hi := 129) hi (by decide) (by decide) (by decide) hk2)
  have hMI : X11I dC dI G ax T Y fa N B N1 B1 N2 B2 K S M E Z H2 := by rw [← ht2]; exact hB2
  refine W.widen (k := 129) (n := 4562) (by omega) (by omega) ?_
  refine lv_pop hx hb dL_law_447 rfl ?_
  refine lv_goto (tgt := 1381) hx hb dL_law_448 (by decide) ?_
  exact kk _ _ ⟨_, _, _, _, _, _, _, _, _, _, _, _, _, _, hXI, hMI⟩ hS

set_option maxHeartbeats 1000000 in
set_option maxRecDepth 100000 in
theorem lc_cold {p : Program} {l : Launch} {e : Env} {s : State} {m : MethodId} {below : List Frame} {meth : Method} {c : Code} {b L : Nat} {xs : Nat → Int32} {dC : Nat → ClassId} {dI : Nat → Nat → Nat} {G : Nat → ClassId} {ax adK adV : Nat → Nat} {A : Nat → Prop} {Q : State → Prop} (C1 : lw_C p s m c b L xs dC dI G ax adK adV A) {k : Nat} (hk : 5 * k + 5 ≤ L) (hL : L ≤ 2560) {H : Heap} {locs : List Loc} {ls : Array Slot} (hI : LI dC dI G ax H) (hS : va_S A s.heap H locs) (hl : lv_has ls 4 [(3, .int (nI (5 * k))), (2, .ref (ax 112)), (1, .ref (ax 0)), (0, .ref b)]) (kk : ∀ (H : Heap) (locs : List Loc), LI dC dI G ax H → va_S A s.heap H locs → W p l e room_1 s m #[Value.ref b] below meth c H locs 129 4562 Q (F0 m 1381 ls [])) : W p l e room_1 s m #[Value.ref b] below meth c H locs 129 4562 Q (F0 m 451 ls []) := by
  obtain ⟨hx, hb, hml, hown, hg, hX, hbl, hbA, hK, hi, hAx, hA, hSS⟩ := C1
  obtain ⟨T, Y, fa, N, B, N1, B1, N2, B2, K, S, M, E, Z, hXI, hMI⟩ := hI
  refine lv_aload_n hx hb dL_law_451 rfl (lv_at hl 2 rfl) ?_
  refine lv_aload_n hx hb dL_law_452 rfl (lv_at hl 3 rfl) ?_
  refine lv_iload_n hx hb dL_law_453 rfl (lv_at hl 0 rfl) ?_
  refine lv_iconst (v := 1) hx hb dL_law_454 (by decide) ?_
  refine lv_iadd hx hb dL_law_455 ?_
  refine lv_cg (y := nI (5 * k + 1)) (by rw [show (1 : Int32) = nI 1 from rfl]; exact nI_add _ _) ?_
  refine va_sld hx hb hX hbl hbA hS (vp_in_nI (by omega) (by omega)) dL_law_456 ?_
  refine lv_cg (y := xs (5 * k + 1)) (by rw [nI_clamp (by omega)]) ?_
  refine lv_aload_n hx hb dL_law_457 rfl (lv_at hl 3 rfl) ?_
  refine lv_iload_n hx hb dL_law_458 rfl (lv_at hl 0 rfl) ?_
  refine lv_iconst (v := 2) hx hb dL_law_459 (by decide) ?_
  refine lv_iadd hx hb dL_law_460 ?_
  refine lv_cg (y := nI (5 * k + 2)) (by rw [show (2 : Int32) = nI 2 from rfl]; exact nI_add _ _) ?_
  refine va_sld hx hb hX hbl hbA hS (vp_in_nI (by omega) (by omega)) dL_law_461 ?_
  refine lv_cg (y := xs (5 * k + 2)) (by rw [nI_clamp (by omega)]) ?_
  refine va_calli (va_runV (As := [.int (xs (5 * k + 1)), .int (xs (5 * k + 2))]) (rest := []) ⟨hx, hb, hml, hown, hg⟩ (k_X10_cold l dC dI G _ ax hi T Y fa N B N1 B1 N2 B2 K S M E Z (xs (5 * k + 1)) (xs (5 * k + 2))) (kwV hg mfX10_cold wt_550 ⟨Nat.le_of_ble_eq_true rfl, Nat.le_of_ble_eq_true rfl⟩) (preVI hK hXI (hXI.recv hK)) rfl rfl hl.1 rfl (lv_room (Nat.le_of_ble_eq_true rfl)) dL_law_462 ⟨Nat.le_of_ble_eq_true rfl, Nat.le_of_ble_eq_true rfl⟩) hS (fun q _ h => ad_A hAx hA (by decide) hS q h) (ad_A hAx hA (by decide) hS) (fun r1 u1 t1 H1 locs1 ht1 hv1 w1 hB1 hz1 hk1 hS => ?_)
  have hMI := hMI.kept (fr_ad (lo := 0) (hi := 112) hi (by decide) (by decide) (by decide) hk1)
  have hXI : X10I dC dI G ax T Y fa N B N1 B1 N2 B2 K S M E Z H1 := by rw [← ht1]; exact hB1
  refine W.widen (k := 129) (n := 4562) (by omega) (by omega) ?_
  refine lv_pop hx hb dL_law_465 rfl ?_
  refine lv_aload_n hx hb dL_law_466 rfl (lv_at hl 1 rfl) ?_
  refine lv_aload_n hx hb dL_law_467 rfl (lv_at hl 3 rfl) ?_
  refine lv_iload_n hx hb dL_law_468 rfl (lv_at hl 0 rfl) ?_
  refine lv_iconst (v := 1) hx hb dL_law_469 (by decide) ?_
  refine lv_iadd hx hb dL_law_470 ?_
  refine lv_cg (y := nI (5 * k + 1)) (by rw [show (1 : Int32) = nI 1 from rfl]; exact nI_add _ _) ?_
  refine va_sld hx hb hX hbl hbA hS (vp_in_nI (by omega) (by omega)) dL_law_471 ?_
  refine lv_cg (y := xs (5 * k + 1)) (by rw [nI_clamp (by omega)]) ?_
  refine lv_aload_n hx hb dL_law_472 rfl (lv_at hl 3 rfl) ?_
  refine lv_iload_n hx hb dL_law_473 rfl (lv_at hl 0 rfl) ?_
  refine lv_iconst (v := 2) hx hb dL_law_474 (by decide) ?_
  refine lv_iadd hx hb dL_law_475 ?_
  refine lv_cg (y := nI (5 * k + 2)) (by rw [show (2 : Int32) = nI 2 from rfl]; exact nI_add _ _) ?_
  refine va_sld hx hb hX hbl hbA hS (vp_in_nI (by omega) (by omega)) dL_law_476 ?_
  refine lv_cg (y := xs (5 * k + 2)) (by rw [nI_clamp (by omega)]) ?_
  refine va_calli (va_runV (As := [.int (xs (5 * k + 1)), .int (xs (5 * k + 2))]) (rest := []) ⟨hx, hb, hml, hown, hg⟩ (k_X11_cold l dC dI G _ ax hi T Y fa N B N1 B1 N2 B2 K S M E Z (xs (5 * k + 1)) (xs (5 * k + 2))) (kwV hg mfX11_cold wt_1078 ⟨Nat.le_of_ble_eq_true rfl, Nat.le_of_ble_eq_true rfl⟩) (preVI hK hMI (hMI.recv hK)) rfl rfl hl.1 rfl (lv_room (Nat.le_of_ble_eq_true rfl)) dL_law_477 ⟨Nat.le_of_ble_eq_true rfl, Nat.le_of_ble_eq_true rfl⟩) hS (fun q _ h => ad_A hAx hA (by decide) hS q h) (ad_A hAx hA (by decide) hS) (fun r2 u2 t2 H2 locs2 ht2 hv2 w2 hB2 hz2 hk2 hS => ?_)
  have hXI := hXI.kept (fr_ad (lo := 112) (hi := 129) hi (by decide) (by decide) (by decide) hk2)
  have hMI : X11I dC dI G ax T Y fa N B N1 B1 N2 B2 K S M E Z H2 := by rw [← ht2]; exact hB2
  refine W.widen (k := 129) (n := 4562) (by omega) (by omega) ?_
  refine lv_pop hx hb dL_law_480 rfl ?_
  refine lv_goto (tgt := 1381) hx hb dL_law_481 (by decide) ?_
  exact kk _ _ ⟨_, _, _, _, _, _, _, _, _, _, _, _, _, _, hXI, hMI⟩ hS

set_option maxHeartbeats 1000000 in
set_option maxRecDepth 100000 in
theorem lc_step {p : Program} {l : Launch} {e : Env} {s : State} {m : MethodId} {below : List Frame} {meth : Method} {c : Code} {b L : Nat} {xs : Nat → Int32} {dC : Nat → ClassId} {dI : Nat → Nat → Nat} {G : Nat → ClassId} {ax adK adV : Nat → Nat} {A : Nat → Prop} {Q : State → Prop} (C1 : lw_C p s m c b L xs dC dI G ax adK adV A) {k : Nat} (hk : 5 * k + 5 ≤ L) (hL : L ≤ 2560) {H : Heap} {locs : List Loc} {ls : Array Slot} (hI : LI dC dI G ax H) (hS : va_S A s.heap H locs) (hl : lv_has ls 4 [(3, .int (nI (5 * k))), (2, .ref (ax 112)), (1, .ref (ax 0)), (0, .ref b)]) (kk : ∀ (H : Heap) (locs : List Loc), LI dC dI G ax H → va_S A s.heap H locs → W p l e room_1 s m #[Value.ref b] below meth c H locs 129 4562 Q (F0 m 1381 ls [])) : W p l e room_1 s m #[Value.ref b] below meth c H locs 129 4562 Q (F0 m 484 ls []) := by
  obtain ⟨hx, hb, hml, hown, hg, hX, hbl, hbA, hK, hi, hAx, hA, hSS⟩ := C1
  obtain ⟨T, Y, fa, N, B, N1, B1, N2, B2, K, S, M, E, Z, hXI, hMI⟩ := hI
  refine lv_aload_n hx hb dL_law_484 rfl (lv_at hl 2 rfl) ?_
  refine lv_aload_n hx hb dL_law_485 rfl (lv_at hl 3 rfl) ?_
  refine lv_iload_n hx hb dL_law_486 rfl (lv_at hl 0 rfl) ?_
  refine lv_iconst (v := 1) hx hb dL_law_487 (by decide) ?_
  refine lv_iadd hx hb dL_law_488 ?_
  refine lv_cg (y := nI (5 * k + 1)) (by rw [show (1 : Int32) = nI 1 from rfl]; exact nI_add _ _) ?_
  refine va_sld hx hb hX hbl hbA hS (vp_in_nI (by omega) (by omega)) dL_law_489 ?_
  refine lv_cg (y := xs (5 * k + 1)) (by rw [nI_clamp (by omega)]) ?_
  refine lv_aload_n hx hb dL_law_490 rfl (lv_at hl 3 rfl) ?_
  refine lv_iload_n hx hb dL_law_491 rfl (lv_at hl 0 rfl) ?_
  refine lv_iconst (v := 2) hx hb dL_law_492 (by decide) ?_
  refine lv_iadd hx hb dL_law_493 ?_
  refine lv_cg (y := nI (5 * k + 2)) (by rw [show (2 : Int32) = nI 2 from rfl]; exact nI_add _ _) ?_
  refine va_sld hx hb hX hbl hbA hS (vp_in_nI (by omega) (by omega)) dL_law_494 ?_
  refine lv_cg (y := xs (5 * k + 2)) (by rw [nI_clamp (by omega)]) ?_
  refine va_calli (va_runV (As := [.int (xs (5 * k + 1)), .int (xs (5 * k + 2))]) (rest := []) ⟨hx, hb, hml, hown, hg⟩ (k_X10_step l dC dI G _ ax hi T Y fa N B N1 B1 N2 B2 K S M E Z (xs (5 * k + 1)) (xs (5 * k + 2))) (kwV hg mfX10_step wt_554 ⟨Nat.le_of_ble_eq_true rfl, Nat.le_of_ble_eq_true rfl⟩) (preVI hK hXI (hXI.recv hK)) rfl rfl hl.1 rfl (lv_room (Nat.le_of_ble_eq_true rfl)) dL_law_495 ⟨Nat.le_of_ble_eq_true rfl, Nat.le_of_ble_eq_true rfl⟩) hS (fun q _ h => ad_A hAx hA (by decide) hS q h) (ad_A hAx hA (by decide) hS) (fun r1 u1 t1 H1 locs1 ht1 hv1 w1 hB1 hz1 hk1 hS => ?_)
  have hMI := hMI.kept (fr_ad (lo := 0) (hi := 112) hi (by decide) (by decide) (by decide) hk1)
  have hXI : X10I dC dI G ax T Y fa N B N1 B1 N2 B2 K S M E Z H1 := by rw [← ht1]; exact hB1
  refine W.widen (k := 129) (n := 4562) (by omega) (by omega) ?_
  refine lv_pop hx hb dL_law_498 rfl ?_
  refine lv_aload_n hx hb dL_law_499 rfl (lv_at hl 1 rfl) ?_
  refine lv_aload_n hx hb dL_law_500 rfl (lv_at hl 3 rfl) ?_
  refine lv_iload_n hx hb dL_law_501 rfl (lv_at hl 0 rfl) ?_
  refine lv_iconst (v := 1) hx hb dL_law_502 (by decide) ?_
  refine lv_iadd hx hb dL_law_503 ?_
  refine lv_cg (y := nI (5 * k + 1)) (by rw [show (1 : Int32) = nI 1 from rfl]; exact nI_add _ _) ?_
  refine va_sld hx hb hX hbl hbA hS (vp_in_nI (by omega) (by omega)) dL_law_504 ?_
  refine lv_cg (y := xs (5 * k + 1)) (by rw [nI_clamp (by omega)]) ?_
  refine lv_aload_n hx hb dL_law_505 rfl (lv_at hl 3 rfl) ?_
  refine lv_iload_n hx hb dL_law_506 rfl (lv_at hl 0 rfl) ?_
  refine lv_iconst (v := 2) hx hb dL_law_507 (by decide) ?_
  refine lv_iadd hx hb dL_law_508 ?_
  refine lv_cg (y := nI (5 * k + 2)) (by rw [show (2 : Int32) = nI 2 from rfl]; exact nI_add _ _) ?_
  refine va_sld hx hb hX hbl hbA hS (vp_in_nI (by omega) (by omega)) dL_law_509 ?_
  refine lv_cg (y := xs (5 * k + 2)) (by rw [nI_clamp (by omega)]) ?_
  refine va_calli (va_runV (As := [.int (xs (5 * k + 1)), .int (xs (5 * k + 2))]) (rest := []) ⟨hx, hb, hml, hown, hg⟩ (k_X11_step l dC dI G _ ax hi T Y fa N B N1 B1 N2 B2 K S M E Z (xs (5 * k + 1)) (xs (5 * k + 2))) (kwV hg mfX11_step wt_1082 ⟨Nat.le_of_ble_eq_true rfl, Nat.le_of_ble_eq_true rfl⟩) (preVI hK hMI (hMI.recv hK)) rfl rfl hl.1 rfl (lv_room (Nat.le_of_ble_eq_true rfl)) dL_law_510 ⟨Nat.le_of_ble_eq_true rfl, Nat.le_of_ble_eq_true rfl⟩) hS (fun q _ h => ad_A hAx hA (by decide) hS q h) (ad_A hAx hA (by decide) hS) (fun r2 u2 t2 H2 locs2 ht2 hv2 w2 hB2 hz2 hk2 hS => ?_)
  have hXI := hXI.kept (fr_ad (lo := 112) (hi := 129) hi (by decide) (by decide) (by decide) hk2)
  have hMI : X11I dC dI G ax T Y fa N B N1 B1 N2 B2 K S M E Z H2 := by rw [← ht2]; exact hB2
  refine W.widen (k := 129) (n := 4562) (by omega) (by omega) ?_
  refine lv_pop hx hb dL_law_513 rfl ?_
  refine lv_goto (tgt := 1381) hx hb dL_law_514 (by decide) ?_
  exact kk _ _ ⟨_, _, _, _, _, _, _, _, _, _, _, _, _, _, hXI, hMI⟩ hS

set_option maxHeartbeats 1000000 in
set_option maxRecDepth 100000 in
theorem lc_warm {p : Program} {l : Launch} {e : Env} {s : State} {m : MethodId} {below : List Frame} {meth : Method} {c : Code} {b L : Nat} {xs : Nat → Int32} {dC : Nat → ClassId} {dI : Nat → Nat → Nat} {G : Nat → ClassId} {ax adK adV : Nat → Nat} {A : Nat → Prop} {Q : State → Prop} (C1 : lw_C p s m c b L xs dC dI G ax adK adV A) {k : Nat} (hk : 5 * k + 5 ≤ L) (hL : L ≤ 2560) {H : Heap} {locs : List Loc} {ls : Array Slot} (hI : LI dC dI G ax H) (hS : va_S A s.heap H locs) (hl : lv_has ls 4 [(3, .int (nI (5 * k))), (2, .ref (ax 112)), (1, .ref (ax 0)), (0, .ref b)]) (kk : ∀ (H : Heap) (locs : List Loc), LI dC dI G ax H → va_S A s.heap H locs → W p l e room_1 s m #[Value.ref b] below meth c H locs 129 4562 Q (F0 m 1381 ls [])) : W p l e room_1 s m #[Value.ref b] below meth c H locs 129 4562 Q (F0 m 517 ls []) := by
  obtain ⟨hx, hb, hml, hown, hg, hX, hbl, hbA, hK, hi, hAx, hA, hSS⟩ := C1
  obtain ⟨T, Y, fa, N, B, N1, B1, N2, B2, K, S, M, E, Z, hXI, hMI⟩ := hI
  refine lv_aload_n hx hb dL_law_517 rfl (lv_at hl 2 rfl) ?_
  refine lv_aload_n hx hb dL_law_518 rfl (lv_at hl 3 rfl) ?_
  refine lv_iload_n hx hb dL_law_519 rfl (lv_at hl 0 rfl) ?_
  refine lv_iconst (v := 1) hx hb dL_law_520 (by decide) ?_
  refine lv_iadd hx hb dL_law_521 ?_
  refine lv_cg (y := nI (5 * k + 1)) (by rw [show (1 : Int32) = nI 1 from rfl]; exact nI_add _ _) ?_
  refine va_sld hx hb hX hbl hbA hS (vp_in_nI (by omega) (by omega)) dL_law_522 ?_
  refine lv_cg (y := xs (5 * k + 1)) (by rw [nI_clamp (by omega)]) ?_
  refine lv_aload_n hx hb dL_law_523 rfl (lv_at hl 3 rfl) ?_
  refine lv_iload_n hx hb dL_law_524 rfl (lv_at hl 0 rfl) ?_
  refine lv_iconst (v := 2) hx hb dL_law_525 (by decide) ?_
  refine lv_iadd hx hb dL_law_526 ?_
  refine lv_cg (y := nI (5 * k + 2)) (by rw [show (2 : Int32) = nI 2 from rfl]; exact nI_add _ _) ?_
  refine va_sld hx hb hX hbl hbA hS (vp_in_nI (by omega) (by omega)) dL_law_527 ?_
  refine lv_cg (y := xs (5 * k + 2)) (by rw [nI_clamp (by omega)]) ?_
  refine va_calli (va_runV (As := [.int (xs (5 * k + 1)), .int (xs (5 * k + 2))]) (rest := []) ⟨hx, hb, hml, hown, hg⟩ (k_X10_warm l dC dI G _ ax hi T Y fa N B N1 B1 N2 B2 K S M E Z (xs (5 * k + 1)) (xs (5 * k + 2))) (kwV hg mfX10_warm wt_558 ⟨Nat.le_of_ble_eq_true rfl, Nat.le_of_ble_eq_true rfl⟩) (preVI hK hXI (hXI.recv hK)) rfl rfl hl.1 rfl (lv_room (Nat.le_of_ble_eq_true rfl)) dL_law_528 ⟨Nat.le_of_ble_eq_true rfl, Nat.le_of_ble_eq_true rfl⟩) hS (fun q _ h => ad_A hAx hA (by decide) hS q h) (ad_A hAx hA (by decide) hS) (fun r1 u1 t1 H1 locs1 ht1 hv1 w1 hB1 hz1 hk1 hS => ?_)
  have hMI := hMI.kept (fr_ad (lo := 0) (hi := 112) hi (by decide) (by decide) (by decide) hk1)
  have hXI : X10I dC dI G ax T Y fa N B N1 B1 N2 B2 K S M E Z H1 := by rw [← ht1]; exact hB1
  refine W.widen (k := 129) (n := 4562) (by omega) (by omega) ?_
  refine lv_pop hx hb dL_law_531 rfl ?_
  refine lv_aload_n hx hb dL_law_532 rfl (lv_at hl 1 rfl) ?_
  refine lv_aload_n hx hb dL_law_533 rfl (lv_at hl 3 rfl) ?_
  refine lv_iload_n hx hb dL_law_534 rfl (lv_at hl 0 rfl) ?_
  refine lv_iconst (v := 1) hx hb dL_law_535 (by decide) ?_
  refine lv_iadd hx hb dL_law_536 ?_
  refine lv_cg (y := nI (5 * k + 1)) (by rw [show (1 : Int32) = nI 1 from rfl]; exact nI_add _ _) ?_
  refine va_sld hx hb hX hbl hbA hS (vp_in_nI (by omega) (by omega)) dL_law_537 ?_
  refine lv_cg (y := xs (5 * k + 1)) (by rw [nI_clamp (by omega)]) ?_
  refine lv_aload_n hx hb dL_law_538 rfl (lv_at hl 3 rfl) ?_
  refine lv_iload_n hx hb dL_law_539 rfl (lv_at hl 0 rfl) ?_
  refine lv_iconst (v := 2) hx hb dL_law_540 (by decide) ?_
  refine lv_iadd hx hb dL_law_541 ?_
  refine lv_cg (y := nI (5 * k + 2)) (by rw [show (2 : Int32) = nI 2 from rfl]; exact nI_add _ _) ?_
  refine va_sld hx hb hX hbl hbA hS (vp_in_nI (by omega) (by omega)) dL_law_542 ?_
  refine lv_cg (y := xs (5 * k + 2)) (by rw [nI_clamp (by omega)]) ?_
  refine va_calli (va_runV (As := [.int (xs (5 * k + 1)), .int (xs (5 * k + 2))]) (rest := []) ⟨hx, hb, hml, hown, hg⟩ (k_X11_warm l dC dI G _ ax hi T Y fa N B N1 B1 N2 B2 K S M E Z (xs (5 * k + 1)) (xs (5 * k + 2))) (kwV hg mfX11_warm wt_1086 ⟨Nat.le_of_ble_eq_true rfl, Nat.le_of_ble_eq_true rfl⟩) (preVI hK hMI (hMI.recv hK)) rfl rfl hl.1 rfl (lv_room (Nat.le_of_ble_eq_true rfl)) dL_law_543 ⟨Nat.le_of_ble_eq_true rfl, Nat.le_of_ble_eq_true rfl⟩) hS (fun q _ h => ad_A hAx hA (by decide) hS q h) (ad_A hAx hA (by decide) hS) (fun r2 u2 t2 H2 locs2 ht2 hv2 w2 hB2 hz2 hk2 hS => ?_)
  have hXI := hXI.kept (fr_ad (lo := 112) (hi := 129) hi (by decide) (by decide) (by decide) hk2)
  have hMI : X11I dC dI G ax T Y fa N B N1 B1 N2 B2 K S M E Z H2 := by rw [← ht2]; exact hB2
  refine W.widen (k := 129) (n := 4562) (by omega) (by omega) ?_
  refine lv_pop hx hb dL_law_546 rfl ?_
  refine lv_goto (tgt := 1381) hx hb dL_law_547 (by decide) ?_
  exact kk _ _ ⟨_, _, _, _, _, _, _, _, _, _, _, _, _, _, hXI, hMI⟩ hS

set_option maxHeartbeats 1000000 in
set_option maxRecDepth 100000 in
theorem lc_put {p : Program} {l : Launch} {e : Env} {s : State} {m : MethodId} {below : List Frame} {meth : Method} {c : Code} {b L : Nat} {xs : Nat → Int32} {dC : Nat → ClassId} {dI : Nat → Nat → Nat} {G : Nat → ClassId} {ax adK adV : Nat → Nat} {A : Nat → Prop} {Q : State → Prop} (C1 : lw_C p s m c b L xs dC dI G ax adK adV A) {k : Nat} (hk : 5 * k + 5 ≤ L) (hL : L ≤ 2560) {H : Heap} {locs : List Loc} {ls : Array Slot} (hI : LI dC dI G ax H) (hS : va_S A s.heap H locs) (hl : lv_has ls 4 [(3, .int (nI (5 * k))), (2, .ref (ax 112)), (1, .ref (ax 0)), (0, .ref b)]) (kk : ∀ (H : Heap) (locs : List Loc), LI dC dI G ax H → va_S A s.heap H locs → W p l e room_1 s m #[Value.ref b] below meth c H locs 129 4562 Q (F0 m 1381 ls [])) : W p l e room_1 s m #[Value.ref b] below meth c H locs 129 4562 Q (F0 m 550 ls []) := by
  obtain ⟨hx, hb, hml, hown, hg, hX, hbl, hbA, hK, hi, hAx, hA, hSS⟩ := C1
  obtain ⟨T, Y, fa, N, B, N1, B1, N2, B2, K, S, M, E, Z, hXI, hMI⟩ := hI
  refine lv_aload_n hx hb dL_law_550 rfl (lv_at hl 2 rfl) ?_
  refine lv_aload_n hx hb dL_law_551 rfl (lv_at hl 3 rfl) ?_
  refine lv_iload_n hx hb dL_law_552 rfl (lv_at hl 0 rfl) ?_
  refine lv_iconst (v := 1) hx hb dL_law_553 (by decide) ?_
  refine lv_iadd hx hb dL_law_554 ?_
  refine lv_cg (y := nI (5 * k + 1)) (by rw [show (1 : Int32) = nI 1 from rfl]; exact nI_add _ _) ?_
  refine va_sld hx hb hX hbl hbA hS (vp_in_nI (by omega) (by omega)) dL_law_555 ?_
  refine lv_cg (y := xs (5 * k + 1)) (by rw [nI_clamp (by omega)]) ?_
  refine lv_aload_n hx hb dL_law_556 rfl (lv_at hl 3 rfl) ?_
  refine lv_iload_n hx hb dL_law_557 rfl (lv_at hl 0 rfl) ?_
  refine lv_iconst (v := 2) hx hb dL_law_558 (by decide) ?_
  refine lv_iadd hx hb dL_law_559 ?_
  refine lv_cg (y := nI (5 * k + 2)) (by rw [show (2 : Int32) = nI 2 from rfl]; exact nI_add _ _) ?_
  refine va_sld hx hb hX hbl hbA hS (vp_in_nI (by omega) (by omega)) dL_law_560 ?_
  refine lv_cg (y := xs (5 * k + 2)) (by rw [nI_clamp (by omega)]) ?_
  refine va_calli (va_runV (As := [.int (xs (5 * k + 1)), .int (xs (5 * k + 2))]) (rest := []) ⟨hx, hb, hml, hown, hg⟩ (k_X10_put l dC dI G _ ax hi T Y fa N B N1 B1 N2 B2 K S M E Z (xs (5 * k + 1)) (xs (5 * k + 2))) (kwV hg mfX10_put wt_562 ⟨Nat.le_of_ble_eq_true rfl, Nat.le_of_ble_eq_true rfl⟩) (preVI hK hXI (hXI.recv hK)) rfl rfl hl.1 rfl (lv_room (Nat.le_of_ble_eq_true rfl)) dL_law_561 ⟨Nat.le_of_ble_eq_true rfl, Nat.le_of_ble_eq_true rfl⟩) hS (fun q _ h => ad_A hAx hA (by decide) hS q h) (ad_A hAx hA (by decide) hS) (fun r1 u1 t1 H1 locs1 ht1 hv1 w1 hB1 hz1 hk1 hS => ?_)
  have hMI := hMI.kept (fr_ad (lo := 0) (hi := 112) hi (by decide) (by decide) (by decide) hk1)
  have hXI : X10I dC dI G ax T Y fa N B N1 B1 N2 B2 K S M E Z H1 := by rw [← ht1]; exact hB1
  refine W.widen (k := 129) (n := 4562) (by omega) (by omega) ?_
  refine lv_pop hx hb dL_law_564 rfl ?_
  refine lv_aload_n hx hb dL_law_565 rfl (lv_at hl 1 rfl) ?_
  refine lv_aload_n hx hb dL_law_566 rfl (lv_at hl 3 rfl) ?_
  refine lv_iload_n hx hb dL_law_567 rfl (lv_at hl 0 rfl) ?_
  refine lv_iconst (v := 1) hx hb dL_law_568 (by decide) ?_
  refine lv_iadd hx hb dL_law_569 ?_
  refine lv_cg (y := nI (5 * k + 1)) (by rw [show (1 : Int32) = nI 1 from rfl]; exact nI_add _ _) ?_
  refine va_sld hx hb hX hbl hbA hS (vp_in_nI (by omega) (by omega)) dL_law_570 ?_
  refine lv_cg (y := xs (5 * k + 1)) (by rw [nI_clamp (by omega)]) ?_
  refine lv_aload_n hx hb dL_law_571 rfl (lv_at hl 3 rfl) ?_
  refine lv_iload_n hx hb dL_law_572 rfl (lv_at hl 0 rfl) ?_
  refine lv_iconst (v := 2) hx hb dL_law_573 (by decide) ?_
  refine lv_iadd hx hb dL_law_574 ?_
  refine lv_cg (y := nI (5 * k + 2)) (by rw [show (2 : Int32) = nI 2 from rfl]; exact nI_add _ _) ?_
  refine va_sld hx hb hX hbl hbA hS (vp_in_nI (by omega) (by omega)) dL_law_575 ?_
  refine lv_cg (y := xs (5 * k + 2)) (by rw [nI_clamp (by omega)]) ?_
  refine va_calli (va_runV (As := [.int (xs (5 * k + 1)), .int (xs (5 * k + 2))]) (rest := []) ⟨hx, hb, hml, hown, hg⟩ (k_X11_put l dC dI G _ ax hi T Y fa N B N1 B1 N2 B2 K S M E Z (xs (5 * k + 1)) (xs (5 * k + 2))) (kwV hg mfX11_put wt_1090 ⟨Nat.le_of_ble_eq_true rfl, Nat.le_of_ble_eq_true rfl⟩) (preVI hK hMI (hMI.recv hK)) rfl rfl hl.1 rfl (lv_room (Nat.le_of_ble_eq_true rfl)) dL_law_576 ⟨Nat.le_of_ble_eq_true rfl, Nat.le_of_ble_eq_true rfl⟩) hS (fun q _ h => ad_A hAx hA (by decide) hS q h) (ad_A hAx hA (by decide) hS) (fun r2 u2 t2 H2 locs2 ht2 hv2 w2 hB2 hz2 hk2 hS => ?_)
  have hXI := hXI.kept (fr_ad (lo := 112) (hi := 129) hi (by decide) (by decide) (by decide) hk2)
  have hMI : X11I dC dI G ax T Y fa N B N1 B1 N2 B2 K S M E Z H2 := by rw [← ht2]; exact hB2
  refine W.widen (k := 129) (n := 4562) (by omega) (by omega) ?_
  refine lv_pop hx hb dL_law_579 rfl ?_
  refine lv_goto (tgt := 1381) hx hb dL_law_580 (by decide) ?_
  exact kk _ _ ⟨_, _, _, _, _, _, _, _, _, _, _, _, _, _, hXI, hMI⟩ hS

set_option maxHeartbeats 1000000 in
set_option maxRecDepth 100000 in
theorem lc_harm {p : Program} {l : Launch} {e : Env} {s : State} {m : MethodId} {below : List Frame} {meth : Method} {c : Code} {b L : Nat} {xs : Nat → Int32} {dC : Nat → ClassId} {dI : Nat → Nat → Nat} {G : Nat → ClassId} {ax adK adV : Nat → Nat} {A : Nat → Prop} {Q : State → Prop} (C1 : lw_C p s m c b L xs dC dI G ax adK adV A) {k : Nat} (hk : 5 * k + 5 ≤ L) (hL : L ≤ 2560) {H : Heap} {locs : List Loc} {ls : Array Slot} (hI : LI dC dI G ax H) (hS : va_S A s.heap H locs) (hl : lv_has ls 4 [(3, .int (nI (5 * k))), (2, .ref (ax 112)), (1, .ref (ax 0)), (0, .ref b)]) (kk : ∀ (H : Heap) (locs : List Loc), LI dC dI G ax H → va_S A s.heap H locs → W p l e room_1 s m #[Value.ref b] below meth c H locs 129 4562 Q (F0 m 1381 ls [])) : W p l e room_1 s m #[Value.ref b] below meth c H locs 129 4562 Q (F0 m 583 ls []) := by
  obtain ⟨hx, hb, hml, hown, hg, hX, hbl, hbA, hK, hi, hAx, hA, hSS⟩ := C1
  obtain ⟨T, Y, fa, N, B, N1, B1, N2, B2, K, S, M, E, Z, hXI, hMI⟩ := hI
  refine lv_aload_n hx hb dL_law_583 rfl (lv_at hl 2 rfl) ?_
  refine lv_aload_n hx hb dL_law_584 rfl (lv_at hl 3 rfl) ?_
  refine lv_iload_n hx hb dL_law_585 rfl (lv_at hl 0 rfl) ?_
  refine lv_iconst (v := 1) hx hb dL_law_586 (by decide) ?_
  refine lv_iadd hx hb dL_law_587 ?_
  refine lv_cg (y := nI (5 * k + 1)) (by rw [show (1 : Int32) = nI 1 from rfl]; exact nI_add _ _) ?_
  refine va_sld hx hb hX hbl hbA hS (vp_in_nI (by omega) (by omega)) dL_law_588 ?_
  refine lv_cg (y := xs (5 * k + 1)) (by rw [nI_clamp (by omega)]) ?_
  refine lv_aload_n hx hb dL_law_589 rfl (lv_at hl 3 rfl) ?_
  refine lv_iload_n hx hb dL_law_590 rfl (lv_at hl 0 rfl) ?_
  refine lv_iconst (v := 2) hx hb dL_law_591 (by decide) ?_
  refine lv_iadd hx hb dL_law_592 ?_
  refine lv_cg (y := nI (5 * k + 2)) (by rw [show (2 : Int32) = nI 2 from rfl]; exact nI_add _ _) ?_
  refine va_sld hx hb hX hbl hbA hS (vp_in_nI (by omega) (by omega)) dL_law_593 ?_
  refine lv_cg (y := xs (5 * k + 2)) (by rw [nI_clamp (by omega)]) ?_
  refine lv_aload_n hx hb dL_law_594 rfl (lv_at hl 3 rfl) ?_
  refine lv_iload_n hx hb dL_law_595 rfl (lv_at hl 0 rfl) ?_
  refine lv_iconst (v := 3) hx hb dL_law_596 (by decide) ?_
  refine lv_iadd hx hb dL_law_597 ?_
  refine lv_cg (y := nI (5 * k + 3)) (by rw [show (3 : Int32) = nI 3 from rfl]; exact nI_add _ _) ?_
  refine va_sld hx hb hX hbl hbA hS (vp_in_nI (by omega) (by omega)) dL_law_598 ?_
  refine lv_cg (y := xs (5 * k + 3)) (by rw [nI_clamp (by omega)]) ?_
  refine va_calli (va_runV (As := [.int (xs (5 * k + 1)), .int (xs (5 * k + 2)), .int (xs (5 * k + 3))]) (rest := []) ⟨hx, hb, hml, hown, hg⟩ (k_X10_harm l dC dI G _ ax hi T Y fa N B N1 B1 N2 B2 K S M E Z (xs (5 * k + 1)) (xs (5 * k + 2)) (xs (5 * k + 3))) (kwV hg mfX10_harm wt_566 ⟨Nat.le_of_ble_eq_true rfl, Nat.le_of_ble_eq_true rfl⟩) (preVI hK hXI (hXI.recv hK)) rfl rfl hl.1 rfl (lv_room (Nat.le_of_ble_eq_true rfl)) dL_law_599 ⟨Nat.le_of_ble_eq_true rfl, Nat.le_of_ble_eq_true rfl⟩) hS (fun q _ h => ad_A hAx hA (by decide) hS q h) (ad_A hAx hA (by decide) hS) (fun r1 u1 t1 H1 locs1 ht1 hv1 w1 hB1 hz1 hk1 hS => ?_)
  have hMI := hMI.kept (fr_ad (lo := 0) (hi := 112) hi (by decide) (by decide) (by decide) hk1)
  have hXI : X10I dC dI G ax T Y fa N B N1 B1 N2 B2 K S M E Z H1 := by rw [← ht1]; exact hB1
  refine W.widen (k := 129) (n := 4562) (by omega) (by omega) ?_
  refine lv_pop hx hb dL_law_602 rfl ?_
  refine lv_aload_n hx hb dL_law_603 rfl (lv_at hl 1 rfl) ?_
  refine lv_aload_n hx hb dL_law_604 rfl (lv_at hl 3 rfl) ?_
  refine lv_iload_n hx hb dL_law_605 rfl (lv_at hl 0 rfl) ?_
  refine lv_iconst (v := 1) hx hb dL_law_606 (by decide) ?_
  refine lv_iadd hx hb dL_law_607 ?_
  refine lv_cg (y := nI (5 * k + 1)) (by rw [show (1 : Int32) = nI 1 from rfl]; exact nI_add _ _) ?_
  refine va_sld hx hb hX hbl hbA hS (vp_in_nI (by omega) (by omega)) dL_law_608 ?_
  refine lv_cg (y := xs (5 * k + 1)) (by rw [nI_clamp (by omega)]) ?_
  refine lv_aload_n hx hb dL_law_609 rfl (lv_at hl 3 rfl) ?_
  refine lv_iload_n hx hb dL_law_610 rfl (lv_at hl 0 rfl) ?_
  refine lv_iconst (v := 2) hx hb dL_law_611 (by decide) ?_
  refine lv_iadd hx hb dL_law_612 ?_
  refine lv_cg (y := nI (5 * k + 2)) (by rw [show (2 : Int32) = nI 2 from rfl]; exact nI_add _ _) ?_
  refine va_sld hx hb hX hbl hbA hS (vp_in_nI (by omega) (by omega)) dL_law_613 ?_
  refine lv_cg (y := xs (5 * k + 2)) (by rw [nI_clamp (by omega)]) ?_
  refine lv_aload_n hx hb dL_law_614 rfl (lv_at hl 3 rfl) ?_
  refine lv_iload_n hx hb dL_law_615 rfl (lv_at hl 0 rfl) ?_
  refine lv_iconst (v := 3) hx hb dL_law_616 (by decide) ?_
  refine lv_iadd hx hb dL_law_617 ?_
  refine lv_cg (y := nI (5 * k + 3)) (by rw [show (3 : Int32) = nI 3 from rfl]; exact nI_add _ _) ?_
  refine va_sld hx hb hX hbl hbA hS (vp_in_nI (by omega) (by omega)) dL_law_618 ?_
  refine lv_cg (y := xs (5 * k + 3)) (by rw [nI_clamp (by omega)]) ?_
  refine va_calli (va_runV (As := [.int (xs (5 * k + 1)), .int (xs (5 * k + 2)), .int (xs (5 * k + 3))]) (rest := []) ⟨hx, hb, hml, hown, hg⟩ (k_X11_harm l dC dI G _ ax hi T Y fa N B N1 B1 N2 B2 K S M E Z (xs (5 * k + 1)) (xs (5 * k + 2)) (xs (5 * k + 3))) (kwV hg mfX11_harm wt_1098 ⟨Nat.le_of_ble_eq_true rfl, Nat.le_of_ble_eq_true rfl⟩) (preVI hK hMI (hMI.recv hK)) rfl rfl hl.1 rfl (lv_room (Nat.le_of_ble_eq_true rfl)) dL_law_619 ⟨Nat.le_of_ble_eq_true rfl, Nat.le_of_ble_eq_true rfl⟩) hS (fun q _ h => ad_A hAx hA (by decide) hS q h) (ad_A hAx hA (by decide) hS) (fun r2 u2 t2 H2 locs2 ht2 hv2 w2 hB2 hz2 hk2 hS => ?_)
  have hXI := hXI.kept (fr_ad (lo := 112) (hi := 129) hi (by decide) (by decide) (by decide) hk2)
  have hMI : X11I dC dI G ax T Y fa N B N1 B1 N2 B2 K S M E Z H2 := by rw [← ht2]; exact hB2
  refine W.widen (k := 129) (n := 4562) (by omega) (by omega) ?_
  refine lv_pop hx hb dL_law_622 rfl ?_
  refine lv_goto (tgt := 1381) hx hb dL_law_623 (by decide) ?_
  exact kk _ _ ⟨_, _, _, _, _, _, _, _, _, _, _, _, _, _, hXI, hMI⟩ hS

set_option maxHeartbeats 1000000 in
set_option maxRecDepth 100000 in
theorem lc_wakes {p : Program} {l : Launch} {e : Env} {s : State} {m : MethodId} {below : List Frame} {meth : Method} {c : Code} {b L : Nat} {xs : Nat → Int32} {dC : Nat → ClassId} {dI : Nat → Nat → Nat} {G : Nat → ClassId} {ax adK adV : Nat → Nat} {A : Nat → Prop} {Q : State → Prop} (C1 : lw_C p s m c b L xs dC dI G ax adK adV A) {k : Nat} (hk : 5 * k + 5 ≤ L) (hL : L ≤ 2560) {H : Heap} {locs : List Loc} {ls : Array Slot} (hI : LI dC dI G ax H) (hS : va_S A s.heap H locs) (hl : lv_has ls 4 [(3, .int (nI (5 * k))), (2, .ref (ax 112)), (1, .ref (ax 0)), (0, .ref b)]) (kk : ∀ (H : Heap) (locs : List Loc), LI dC dI G ax H → va_S A s.heap H locs → W p l e room_1 s m #[Value.ref b] below meth c H locs 129 4562 Q (F0 m 1381 ls [])) : W p l e room_1 s m #[Value.ref b] below meth c H locs 129 4562 Q (F0 m 626 ls []) := by
  obtain ⟨hx, hb, hml, hown, hg, hX, hbl, hbA, hK, hi, hAx, hA, hSS⟩ := C1
  obtain ⟨T, Y, fa, N, B, N1, B1, N2, B2, K, S, M, E, Z, hXI, hMI⟩ := hI
  refine lv_aload_n hx hb dL_law_626 rfl (lv_at hl 2 rfl) ?_
  refine lv_aload_n hx hb dL_law_627 rfl (lv_at hl 3 rfl) ?_
  refine lv_iload_n hx hb dL_law_628 rfl (lv_at hl 0 rfl) ?_
  refine lv_iconst (v := 1) hx hb dL_law_629 (by decide) ?_
  refine lv_iadd hx hb dL_law_630 ?_
  refine lv_cg (y := nI (5 * k + 1)) (by rw [show (1 : Int32) = nI 1 from rfl]; exact nI_add _ _) ?_
  refine va_sld hx hb hX hbl hbA hS (vp_in_nI (by omega) (by omega)) dL_law_631 ?_
  refine lv_cg (y := xs (5 * k + 1)) (by rw [nI_clamp (by omega)]) ?_
  refine va_calll (va_runV (As := [.int (xs (5 * k + 1))]) (rest := []) ⟨hx, hb, hml, hown, hg⟩ (k_X10_wakes l dC dI G _ ax hi T Y fa N B N1 B1 N2 B2 K S M E Z (xs (5 * k + 1))) (kwV hg mfX10_wakes wt_600 ⟨Nat.le_of_ble_eq_true rfl, Nat.le_of_ble_eq_true rfl⟩) (preVI hK hXI (hXI.recv hK)) rfl rfl hl.1 rfl (lv_room (Nat.le_of_ble_eq_true rfl)) dL_law_632 ⟨Nat.le_of_ble_eq_true rfl, Nat.le_of_ble_eq_true rfl⟩) hS (fun q _ h => ad_A hAx hA (by decide) hS q h) (ad_A hAx hA (by decide) hS) (fun r1 u1 t1 H1 locs1 ht1 hv1 w1 hB1 hz1 hk1 hS => ?_)
  have hMI := hMI.kept (fr_ad (lo := 0) (hi := 112) hi (by decide) (by decide) (by decide) hk1)
  have hXI : X10I dC dI G ax T Y fa N B N1 B1 N2 B2 K S M E Z H1 := by rw [← ht1]; exact hB1
  refine W.widen (k := 129) (n := 4562) (by omega) (by omega) ?_
  refine lv_pop2_2 hx hb dL_law_635 rfl ?_
  refine lv_aload_n hx hb dL_law_636 rfl (lv_at hl 1 rfl) ?_
  refine lv_aload_n hx hb dL_law_637 rfl (lv_at hl 3 rfl) ?_
  refine lv_iload_n hx hb dL_law_638 rfl (lv_at hl 0 rfl) ?_
  refine lv_iconst (v := 1) hx hb dL_law_639 (by decide) ?_
  refine lv_iadd hx hb dL_law_640 ?_
  refine lv_cg (y := nI (5 * k + 1)) (by rw [show (1 : Int32) = nI 1 from rfl]; exact nI_add _ _) ?_
  refine va_sld hx hb hX hbl hbA hS (vp_in_nI (by omega) (by omega)) dL_law_641 ?_
  refine lv_cg (y := xs (5 * k + 1)) (by rw [nI_clamp (by omega)]) ?_
  refine va_calll (va_runV (As := [.int (xs (5 * k + 1))]) (rest := []) ⟨hx, hb, hml, hown, hg⟩ (k_X11_wakes l dC dI G _ ax hi T Y fa N B N1 B1 N2 B2 K S M E Z (xs (5 * k + 1))) (kwV hg mfX11_wakes wt_1114 ⟨Nat.le_of_ble_eq_true rfl, Nat.le_of_ble_eq_true rfl⟩) (preVI hK hMI (hMI.recv hK)) rfl rfl hl.1 rfl (lv_room (Nat.le_of_ble_eq_true rfl)) dL_law_642 ⟨Nat.le_of_ble_eq_true rfl, Nat.le_of_ble_eq_true rfl⟩) hS (fun q _ h => ad_A hAx hA (by decide) hS q h) (ad_A hAx hA (by decide) hS) (fun r2 u2 t2 H2 locs2 ht2 hv2 w2 hB2 hz2 hk2 hS => ?_)
  have hXI := hXI.kept (fr_ad (lo := 112) (hi := 129) hi (by decide) (by decide) (by decide) hk2)
  have hMI : X11I dC dI G ax T Y fa N B N1 B1 N2 B2 K S M E Z H2 := by rw [← ht2]; exact hB2
  refine W.widen (k := 129) (n := 4562) (by omega) (by omega) ?_
  refine lv_pop2_2 hx hb dL_law_645 rfl ?_
  refine lv_goto (tgt := 1381) hx hb dL_law_646 (by decide) ?_
  exact kk _ _ ⟨_, _, _, _, _, _, _, _, _, _, _, _, _, _, hXI, hMI⟩ hS

set_option maxHeartbeats 1000000 in
set_option maxRecDepth 100000 in
theorem lc_awake {p : Program} {l : Launch} {e : Env} {s : State} {m : MethodId} {below : List Frame} {meth : Method} {c : Code} {b L : Nat} {xs : Nat → Int32} {dC : Nat → ClassId} {dI : Nat → Nat → Nat} {G : Nat → ClassId} {ax adK adV : Nat → Nat} {A : Nat → Prop} {Q : State → Prop} (C1 : lw_C p s m c b L xs dC dI G ax adK adV A) {k : Nat} (hk : 5 * k + 5 ≤ L) (hL : L ≤ 2560) {H : Heap} {locs : List Loc} {ls : Array Slot} (hI : LI dC dI G ax H) (hS : va_S A s.heap H locs) (hl : lv_has ls 4 [(3, .int (nI (5 * k))), (2, .ref (ax 112)), (1, .ref (ax 0)), (0, .ref b)]) (kk : ∀ (H : Heap) (locs : List Loc), LI dC dI G ax H → va_S A s.heap H locs → W p l e room_1 s m #[Value.ref b] below meth c H locs 129 4562 Q (F0 m 1381 ls [])) : W p l e room_1 s m #[Value.ref b] below meth c H locs 129 4562 Q (F0 m 649 ls []) := by
  obtain ⟨hx, hb, hml, hown, hg, hX, hbl, hbA, hK, hi, hAx, hA, hSS⟩ := C1
  obtain ⟨T, Y, fa, N, B, N1, B1, N2, B2, K, S, M, E, Z, hXI, hMI⟩ := hI
  refine lv_aload_n hx hb dL_law_649 rfl (lv_at hl 2 rfl) ?_
  refine lv_aload_n hx hb dL_law_650 rfl (lv_at hl 3 rfl) ?_
  refine lv_iload_n hx hb dL_law_651 rfl (lv_at hl 0 rfl) ?_
  refine lv_iconst (v := 1) hx hb dL_law_652 (by decide) ?_
  refine lv_iadd hx hb dL_law_653 ?_
  refine lv_cg (y := nI (5 * k + 1)) (by rw [show (1 : Int32) = nI 1 from rfl]; exact nI_add _ _) ?_
  refine va_sld hx hb hX hbl hbA hS (vp_in_nI (by omega) (by omega)) dL_law_654 ?_
  refine lv_cg (y := xs (5 * k + 1)) (by rw [nI_clamp (by omega)]) ?_
  refine lv_aload_n hx hb dL_law_655 rfl (lv_at hl 3 rfl) ?_
  refine lv_iload_n hx hb dL_law_656 rfl (lv_at hl 0 rfl) ?_
  refine lv_iconst (v := 2) hx hb dL_law_657 (by decide) ?_
  refine lv_iadd hx hb dL_law_658 ?_
  refine lv_cg (y := nI (5 * k + 2)) (by rw [show (2 : Int32) = nI 2 from rfl]; exact nI_add _ _) ?_
  refine va_sld hx hb hX hbl hbA hS (vp_in_nI (by omega) (by omega)) dL_law_659 ?_
  refine lv_cg (y := xs (5 * k + 2)) (by rw [nI_clamp (by omega)]) ?_
  refine va_calll (va_runV (As := [.int (xs (5 * k + 1)), .int (xs (5 * k + 2))]) (rest := []) ⟨hx, hb, hml, hown, hg⟩ (k_X10_awake l dC dI G _ ax hi T Y fa N B N1 B1 N2 B2 K S M E Z (xs (5 * k + 1)) (xs (5 * k + 2))) (kwV hg mfX10_awake wt_641 ⟨Nat.le_of_ble_eq_true rfl, Nat.le_of_ble_eq_true rfl⟩) (preVI hK hXI (hXI.recv hK)) rfl rfl hl.1 rfl (lv_room (Nat.le_of_ble_eq_true rfl)) dL_law_660 ⟨Nat.le_of_ble_eq_true rfl, Nat.le_of_ble_eq_true rfl⟩) hS (fun q _ h => ad_A hAx hA (by decide) hS q h) (ad_A hAx hA (by decide) hS) (fun r1 u1 t1 H1 locs1 ht1 hv1 w1 hB1 hz1 hk1 hS => ?_)
  have hMI := hMI.kept (fr_ad (lo := 0) (hi := 112) hi (by decide) (by decide) (by decide) hk1)
  have hXI : X10I dC dI G ax T Y fa N B N1 B1 N2 B2 K S M E Z H1 := by rw [← ht1]; exact hB1
  refine W.widen (k := 129) (n := 4562) (by omega) (by omega) ?_
  refine lv_pop2_2 hx hb dL_law_663 rfl ?_
  refine lv_aload_n hx hb dL_law_664 rfl (lv_at hl 1 rfl) ?_
  refine lv_aload_n hx hb dL_law_665 rfl (lv_at hl 3 rfl) ?_
  refine lv_iload_n hx hb dL_law_666 rfl (lv_at hl 0 rfl) ?_
  refine lv_iconst (v := 1) hx hb dL_law_667 (by decide) ?_
  refine lv_iadd hx hb dL_law_668 ?_
  refine lv_cg (y := nI (5 * k + 1)) (by rw [show (1 : Int32) = nI 1 from rfl]; exact nI_add _ _) ?_
  refine va_sld hx hb hX hbl hbA hS (vp_in_nI (by omega) (by omega)) dL_law_669 ?_
  refine lv_cg (y := xs (5 * k + 1)) (by rw [nI_clamp (by omega)]) ?_
  refine lv_aload_n hx hb dL_law_670 rfl (lv_at hl 3 rfl) ?_
  refine lv_iload_n hx hb dL_law_671 rfl (lv_at hl 0 rfl) ?_
  refine lv_iconst (v := 2) hx hb dL_law_672 (by decide) ?_
  refine lv_iadd hx hb dL_law_673 ?_
  refine lv_cg (y := nI (5 * k + 2)) (by rw [show (2 : Int32) = nI 2 from rfl]; exact nI_add _ _) ?_
  refine va_sld hx hb hX hbl hbA hS (vp_in_nI (by omega) (by omega)) dL_law_674 ?_
  refine lv_cg (y := xs (5 * k + 2)) (by rw [nI_clamp (by omega)]) ?_
  refine va_calll (va_runV (As := [.int (xs (5 * k + 1)), .int (xs (5 * k + 2))]) (rest := []) ⟨hx, hb, hml, hown, hg⟩ (k_X11_awake l dC dI G _ ax hi T Y fa N B N1 B1 N2 B2 K S M E Z (xs (5 * k + 1)) (xs (5 * k + 2))) (kwV hg mfX11_awake wt_1137 ⟨Nat.le_of_ble_eq_true rfl, Nat.le_of_ble_eq_true rfl⟩) (preVI hK hMI (hMI.recv hK)) rfl rfl hl.1 rfl (lv_room (Nat.le_of_ble_eq_true rfl)) dL_law_675 ⟨Nat.le_of_ble_eq_true rfl, Nat.le_of_ble_eq_true rfl⟩) hS (fun q _ h => ad_A hAx hA (by decide) hS q h) (ad_A hAx hA (by decide) hS) (fun r2 u2 t2 H2 locs2 ht2 hv2 w2 hB2 hz2 hk2 hS => ?_)
  have hXI := hXI.kept (fr_ad (lo := 112) (hi := 129) hi (by decide) (by decide) (by decide) hk2)
  have hMI : X11I dC dI G ax T Y fa N B N1 B1 N2 B2 K S M E Z H2 := by rw [← ht2]; exact hB2
  refine W.widen (k := 129) (n := 4562) (by omega) (by omega) ?_
  refine lv_pop2_2 hx hb dL_law_678 rfl ?_
  refine lv_goto (tgt := 1381) hx hb dL_law_679 (by decide) ?_
  exact kk _ _ ⟨_, _, _, _, _, _, _, _, _, _, _, _, _, _, hXI, hMI⟩ hS

set_option maxHeartbeats 1000000 in
set_option maxRecDepth 100000 in
theorem lc_depth {p : Program} {l : Launch} {e : Env} {s : State} {m : MethodId} {below : List Frame} {meth : Method} {c : Code} {b L : Nat} {xs : Nat → Int32} {dC : Nat → ClassId} {dI : Nat → Nat → Nat} {G : Nat → ClassId} {ax adK adV : Nat → Nat} {A : Nat → Prop} {Q : State → Prop} (C1 : lw_C p s m c b L xs dC dI G ax adK adV A) {k : Nat} (hk : 5 * k + 5 ≤ L) (hL : L ≤ 2560) {H : Heap} {locs : List Loc} {ls : Array Slot} (hI : LI dC dI G ax H) (hS : va_S A s.heap H locs) (hl : lv_has ls 4 [(3, .int (nI (5 * k))), (2, .ref (ax 112)), (1, .ref (ax 0)), (0, .ref b)]) (kk : ∀ (H : Heap) (locs : List Loc), LI dC dI G ax H → va_S A s.heap H locs → W p l e room_1 s m #[Value.ref b] below meth c H locs 129 4562 Q (F0 m 1381 ls [])) : W p l e room_1 s m #[Value.ref b] below meth c H locs 129 4562 Q (F0 m 682 ls []) := by
  obtain ⟨hx, hb, hml, hown, hg, hX, hbl, hbA, hK, hi, hAx, hA, hSS⟩ := C1
  obtain ⟨T, Y, fa, N, B, N1, B1, N2, B2, K, S, M, E, Z, hXI, hMI⟩ := hI
  refine lv_aload_n hx hb dL_law_682 rfl (lv_at hl 2 rfl) ?_
  refine lv_aload_n hx hb dL_law_683 rfl (lv_at hl 3 rfl) ?_
  refine lv_iload_n hx hb dL_law_684 rfl (lv_at hl 0 rfl) ?_
  refine lv_iconst (v := 1) hx hb dL_law_685 (by decide) ?_
  refine lv_iadd hx hb dL_law_686 ?_
  refine lv_cg (y := nI (5 * k + 1)) (by rw [show (1 : Int32) = nI 1 from rfl]; exact nI_add _ _) ?_
  refine va_sld hx hb hX hbl hbA hS (vp_in_nI (by omega) (by omega)) dL_law_687 ?_
  refine lv_cg (y := xs (5 * k + 1)) (by rw [nI_clamp (by omega)]) ?_
  refine lv_aload_n hx hb dL_law_688 rfl (lv_at hl 3 rfl) ?_
  refine lv_iload_n hx hb dL_law_689 rfl (lv_at hl 0 rfl) ?_
  refine lv_iconst (v := 2) hx hb dL_law_690 (by decide) ?_
  refine lv_iadd hx hb dL_law_691 ?_
  refine lv_cg (y := nI (5 * k + 2)) (by rw [show (2 : Int32) = nI 2 from rfl]; exact nI_add _ _) ?_
  refine va_sld hx hb hX hbl hbA hS (vp_in_nI (by omega) (by omega)) dL_law_692 ?_
  refine lv_cg (y := xs (5 * k + 2)) (by rw [nI_clamp (by omega)]) ?_
  refine lv_aload_n hx hb dL_law_693 rfl (lv_at hl 3 rfl) ?_
  refine lv_iload_n hx hb dL_law_694 rfl (lv_at hl 0 rfl) ?_
  refine lv_iconst (v := 3) hx hb dL_law_695 (by decide) ?_
  refine lv_iadd hx hb dL_law_696 ?_
  refine lv_cg (y := nI (5 * k + 3)) (by rw [show (3 : Int32) = nI 3 from rfl]; exact nI_add _ _) ?_
  refine va_sld hx hb hX hbl hbA hS (vp_in_nI (by omega) (by omega)) dL_law_697 ?_
  refine lv_cg (y := xs (5 * k + 3)) (by rw [nI_clamp (by omega)]) ?_
  refine va_calll (va_runV (As := [.int (xs (5 * k + 1)), .int (xs (5 * k + 2)), .int (xs (5 * k + 3))]) (rest := []) ⟨hx, hb, hml, hown, hg⟩ (k_X10_depth l dC dI G _ ax hi T Y fa N B N1 B1 N2 B2 K S M E Z (xs (5 * k + 1)) (xs (5 * k + 2)) (xs (5 * k + 3))) (kwV hg mfX10_depth wt_652 ⟨Nat.le_of_ble_eq_true rfl, Nat.le_of_ble_eq_true rfl⟩) (preVI hK hXI (hXI.recv hK)) rfl rfl hl.1 rfl (lv_room (Nat.le_of_ble_eq_true rfl)) dL_law_698 ⟨Nat.le_of_ble_eq_true rfl, Nat.le_of_ble_eq_true rfl⟩) hS (fun q _ h => ad_A hAx hA (by decide) hS q h) (ad_A hAx hA (by decide) hS) (fun r1 u1 t1 H1 locs1 ht1 hv1 w1 hB1 hz1 hk1 hS => ?_)
  have hMI := hMI.kept (fr_ad (lo := 0) (hi := 112) hi (by decide) (by decide) (by decide) hk1)
  have hXI : X10I dC dI G ax T Y fa N B N1 B1 N2 B2 K S M E Z H1 := by rw [← ht1]; exact hB1
  refine W.widen (k := 129) (n := 4562) (by omega) (by omega) ?_
  refine lv_pop2_2 hx hb dL_law_701 rfl ?_
  refine lv_aload_n hx hb dL_law_702 rfl (lv_at hl 1 rfl) ?_
  refine lv_aload_n hx hb dL_law_703 rfl (lv_at hl 3 rfl) ?_
  refine lv_iload_n hx hb dL_law_704 rfl (lv_at hl 0 rfl) ?_
  refine lv_iconst (v := 1) hx hb dL_law_705 (by decide) ?_
  refine lv_iadd hx hb dL_law_706 ?_
  refine lv_cg (y := nI (5 * k + 1)) (by rw [show (1 : Int32) = nI 1 from rfl]; exact nI_add _ _) ?_
  refine va_sld hx hb hX hbl hbA hS (vp_in_nI (by omega) (by omega)) dL_law_707 ?_
  refine lv_cg (y := xs (5 * k + 1)) (by rw [nI_clamp (by omega)]) ?_
  refine lv_aload_n hx hb dL_law_708 rfl (lv_at hl 3 rfl) ?_
  refine lv_iload_n hx hb dL_law_709 rfl (lv_at hl 0 rfl) ?_
  refine lv_iconst (v := 2) hx hb dL_law_710 (by decide) ?_
  refine lv_iadd hx hb dL_law_711 ?_
  refine lv_cg (y := nI (5 * k + 2)) (by rw [show (2 : Int32) = nI 2 from rfl]; exact nI_add _ _) ?_
  refine va_sld hx hb hX hbl hbA hS (vp_in_nI (by omega) (by omega)) dL_law_712 ?_
  refine lv_cg (y := xs (5 * k + 2)) (by rw [nI_clamp (by omega)]) ?_
  refine lv_aload_n hx hb dL_law_713 rfl (lv_at hl 3 rfl) ?_
  refine lv_iload_n hx hb dL_law_714 rfl (lv_at hl 0 rfl) ?_
  refine lv_iconst (v := 3) hx hb dL_law_715 (by decide) ?_
  refine lv_iadd hx hb dL_law_716 ?_
  refine lv_cg (y := nI (5 * k + 3)) (by rw [show (3 : Int32) = nI 3 from rfl]; exact nI_add _ _) ?_
  refine va_sld hx hb hX hbl hbA hS (vp_in_nI (by omega) (by omega)) dL_law_717 ?_
  refine lv_cg (y := xs (5 * k + 3)) (by rw [nI_clamp (by omega)]) ?_
  refine va_calll (va_runV (As := [.int (xs (5 * k + 1)), .int (xs (5 * k + 2)), .int (xs (5 * k + 3))]) (rest := []) ⟨hx, hb, hml, hown, hg⟩ (k_X11_depth l dC dI G _ ax hi T Y fa N B N1 B1 N2 B2 K S M E Z (xs (5 * k + 1)) (xs (5 * k + 2)) (xs (5 * k + 3))) (kwV hg mfX11_depth wt_1145 ⟨Nat.le_of_ble_eq_true rfl, Nat.le_of_ble_eq_true rfl⟩) (preVI hK hMI (hMI.recv hK)) rfl rfl hl.1 rfl (lv_room (Nat.le_of_ble_eq_true rfl)) dL_law_718 ⟨Nat.le_of_ble_eq_true rfl, Nat.le_of_ble_eq_true rfl⟩) hS (fun q _ h => ad_A hAx hA (by decide) hS q h) (ad_A hAx hA (by decide) hS) (fun r2 u2 t2 H2 locs2 ht2 hv2 w2 hB2 hz2 hk2 hS => ?_)
  have hXI := hXI.kept (fr_ad (lo := 112) (hi := 129) hi (by decide) (by decide) (by decide) hk2)
  have hMI : X11I dC dI G ax T Y fa N B N1 B1 N2 B2 K S M E Z H2 := by rw [← ht2]; exact hB2
  refine W.widen (k := 129) (n := 4562) (by omega) (by omega) ?_
  refine lv_pop2_2 hx hb dL_law_721 rfl ?_
  refine lv_goto (tgt := 1381) hx hb dL_law_722 (by decide) ?_
  exact kk _ _ ⟨_, _, _, _, _, _, _, _, _, _, _, _, _, _, hXI, hMI⟩ hS

set_option maxHeartbeats 1000000 in
set_option maxRecDepth 100000 in
theorem lc_best {p : Program} {l : Launch} {e : Env} {s : State} {m : MethodId} {below : List Frame} {meth : Method} {c : Code} {b L : Nat} {xs : Nat → Int32} {dC : Nat → ClassId} {dI : Nat → Nat → Nat} {G : Nat → ClassId} {ax adK adV : Nat → Nat} {A : Nat → Prop} {Q : State → Prop} (C1 : lw_C p s m c b L xs dC dI G ax adK adV A) {k : Nat} (hk : 5 * k + 5 ≤ L) (hL : L ≤ 2560) {H : Heap} {locs : List Loc} {ls : Array Slot} (hI : LI dC dI G ax H) (hS : va_S A s.heap H locs) (hl : lv_has ls 4 [(3, .int (nI (5 * k))), (2, .ref (ax 112)), (1, .ref (ax 0)), (0, .ref b)]) (kk : ∀ (H : Heap) (locs : List Loc), LI dC dI G ax H → va_S A s.heap H locs → W p l e room_1 s m #[Value.ref b] below meth c H locs 129 4562 Q (F0 m 1381 ls [])) : W p l e room_1 s m #[Value.ref b] below meth c H locs 129 4562 Q (F0 m 725 ls []) := by
  obtain ⟨hx, hb, hml, hown, hg, hX, hbl, hbA, hK, hi, hAx, hA, hSS⟩ := C1
  obtain ⟨T, Y, fa, N, B, N1, B1, N2, B2, K, S, M, E, Z, hXI, hMI⟩ := hI
  refine lv_aload_n hx hb dL_law_725 rfl (lv_at hl 2 rfl) ?_
  refine lv_aload_n hx hb dL_law_726 rfl (lv_at hl 3 rfl) ?_
  refine lv_iload_n hx hb dL_law_727 rfl (lv_at hl 0 rfl) ?_
  refine lv_iconst (v := 1) hx hb dL_law_728 (by decide) ?_
  refine lv_iadd hx hb dL_law_729 ?_
  refine lv_cg (y := nI (5 * k + 1)) (by rw [show (1 : Int32) = nI 1 from rfl]; exact nI_add _ _) ?_
  refine va_sld hx hb hX hbl hbA hS (vp_in_nI (by omega) (by omega)) dL_law_730 ?_
  refine lv_cg (y := xs (5 * k + 1)) (by rw [nI_clamp (by omega)]) ?_
  refine va_calll (va_runV (As := [.int (xs (5 * k + 1))]) (rest := []) ⟨hx, hb, hml, hown, hg⟩ (k_X10_best l dC dI G _ ax hi T Y fa N B N1 B1 N2 B2 K S M E Z (xs (5 * k + 1))) (kwV hg mfX10_best wt_653 ⟨Nat.le_of_ble_eq_true rfl, Nat.le_of_ble_eq_true rfl⟩) (preVI hK hXI (hXI.recv hK)) rfl rfl hl.1 rfl (lv_room (Nat.le_of_ble_eq_true rfl)) dL_law_731 ⟨Nat.le_of_ble_eq_true rfl, Nat.le_of_ble_eq_true rfl⟩) hS (fun q _ h => ad_A hAx hA (by decide) hS q h) (ad_A hAx hA (by decide) hS) (fun r1 u1 t1 H1 locs1 ht1 hv1 w1 hB1 hz1 hk1 hS => ?_)
  have hMI := hMI.kept (fr_ad (lo := 0) (hi := 112) hi (by decide) (by decide) (by decide) hk1)
  have hXI : X10I dC dI G ax T Y fa N B N1 B1 N2 B2 K S M E Z H1 := by rw [← ht1]; exact hB1
  refine W.widen (k := 129) (n := 4562) (by omega) (by omega) ?_
  refine lv_pop2_2 hx hb dL_law_734 rfl ?_
  refine lv_aload_n hx hb dL_law_735 rfl (lv_at hl 1 rfl) ?_
  refine lv_aload_n hx hb dL_law_736 rfl (lv_at hl 3 rfl) ?_
  refine lv_iload_n hx hb dL_law_737 rfl (lv_at hl 0 rfl) ?_
  refine lv_iconst (v := 1) hx hb dL_law_738 (by decide) ?_
  refine lv_iadd hx hb dL_law_739 ?_
  refine lv_cg (y := nI (5 * k + 1)) (by rw [show (1 : Int32) = nI 1 from rfl]; exact nI_add _ _) ?_
  refine va_sld hx hb hX hbl hbA hS (vp_in_nI (by omega) (by omega)) dL_law_740 ?_
  refine lv_cg (y := xs (5 * k + 1)) (by rw [nI_clamp (by omega)]) ?_
  refine va_calll (va_runV (As := [.int (xs (5 * k + 1))]) (rest := []) ⟨hx, hb, hml, hown, hg⟩ (k_X11_best l dC dI G _ ax hi T Y fa N B N1 B1 N2 B2 K S M E Z (xs (5 * k + 1))) (kwV hg mfX11_best wt_1146 ⟨Nat.le_of_ble_eq_true rfl, Nat.le_of_ble_eq_true rfl⟩) (preVI hK hMI (hMI.recv hK)) rfl rfl hl.1 rfl (lv_room (Nat.le_of_ble_eq_true rfl)) dL_law_741 ⟨Nat.le_of_ble_eq_true rfl, Nat.le_of_ble_eq_true rfl⟩) hS (fun q _ h => ad_A hAx hA (by decide) hS q h) (ad_A hAx hA (by decide) hS) (fun r2 u2 t2 H2 locs2 ht2 hv2 w2 hB2 hz2 hk2 hS => ?_)
  have hXI := hXI.kept (fr_ad (lo := 112) (hi := 129) hi (by decide) (by decide) (by decide) hk2)
  have hMI : X11I dC dI G ax T Y fa N B N1 B1 N2 B2 K S M E Z H2 := by rw [← ht2]; exact hB2
  refine W.widen (k := 129) (n := 4562) (by omega) (by omega) ?_
  refine lv_pop2_2 hx hb dL_law_744 rfl ?_
  refine lv_goto (tgt := 1381) hx hb dL_law_745 (by decide) ?_
  exact kk _ _ ⟨_, _, _, _, _, _, _, _, _, _, _, _, _, _, hXI, hMI⟩ hS

set_option maxHeartbeats 1000000 in
set_option maxRecDepth 100000 in
theorem lc_next {p : Program} {l : Launch} {e : Env} {s : State} {m : MethodId} {below : List Frame} {meth : Method} {c : Code} {b L : Nat} {xs : Nat → Int32} {dC : Nat → ClassId} {dI : Nat → Nat → Nat} {G : Nat → ClassId} {ax adK adV : Nat → Nat} {A : Nat → Prop} {Q : State → Prop} (C1 : lw_C p s m c b L xs dC dI G ax adK adV A) {k : Nat} (hk : 5 * k + 5 ≤ L) (hL : L ≤ 2560) {H : Heap} {locs : List Loc} {ls : Array Slot} (hI : LI dC dI G ax H) (hS : va_S A s.heap H locs) (hl : lv_has ls 4 [(3, .int (nI (5 * k))), (2, .ref (ax 112)), (1, .ref (ax 0)), (0, .ref b)]) (kk : ∀ (H : Heap) (locs : List Loc), LI dC dI G ax H → va_S A s.heap H locs → W p l e room_1 s m #[Value.ref b] below meth c H locs 129 4562 Q (F0 m 1381 ls [])) : W p l e room_1 s m #[Value.ref b] below meth c H locs 129 4562 Q (F0 m 748 ls []) := by
  obtain ⟨hx, hb, hml, hown, hg, hX, hbl, hbA, hK, hi, hAx, hA, hSS⟩ := C1
  obtain ⟨T, Y, fa, N, B, N1, B1, N2, B2, K, S, M, E, Z, hXI, hMI⟩ := hI
  refine lv_aload_n hx hb dL_law_748 rfl (lv_at hl 2 rfl) ?_
  refine lv_aload_n hx hb dL_law_749 rfl (lv_at hl 3 rfl) ?_
  refine lv_iload_n hx hb dL_law_750 rfl (lv_at hl 0 rfl) ?_
  refine lv_iconst (v := 1) hx hb dL_law_751 (by decide) ?_
  refine lv_iadd hx hb dL_law_752 ?_
  refine lv_cg (y := nI (5 * k + 1)) (by rw [show (1 : Int32) = nI 1 from rfl]; exact nI_add _ _) ?_
  refine va_sld hx hb hX hbl hbA hS (vp_in_nI (by omega) (by omega)) dL_law_753 ?_
  refine lv_cg (y := xs (5 * k + 1)) (by rw [nI_clamp (by omega)]) ?_
  refine lv_aload_n hx hb dL_law_754 rfl (lv_at hl 3 rfl) ?_
  refine lv_iload_n hx hb dL_law_755 rfl (lv_at hl 0 rfl) ?_
  refine lv_iconst (v := 2) hx hb dL_law_756 (by decide) ?_
  refine lv_iadd hx hb dL_law_757 ?_
  refine lv_cg (y := nI (5 * k + 2)) (by rw [show (2 : Int32) = nI 2 from rfl]; exact nI_add _ _) ?_
  refine va_sld hx hb hX hbl hbA hS (vp_in_nI (by omega) (by omega)) dL_law_758 ?_
  refine lv_cg (y := xs (5 * k + 2)) (by rw [nI_clamp (by omega)]) ?_
  refine lv_aload_n hx hb dL_law_759 rfl (lv_at hl 3 rfl) ?_
  refine lv_iload_n hx hb dL_law_760 rfl (lv_at hl 0 rfl) ?_
  refine lv_iconst (v := 3) hx hb dL_law_761 (by decide) ?_
  refine lv_iadd hx hb dL_law_762 ?_
  refine lv_cg (y := nI (5 * k + 3)) (by rw [show (3 : Int32) = nI 3 from rfl]; exact nI_add _ _) ?_
  refine va_sld hx hb hX hbl hbA hS (vp_in_nI (by omega) (by omega)) dL_law_763 ?_
  refine lv_cg (y := xs (5 * k + 3)) (by rw [nI_clamp (by omega)]) ?_
  refine va_calli (va_runV (As := [.int (xs (5 * k + 1)), .int (xs (5 * k + 2)), .int (xs (5 * k + 3))]) (rest := []) ⟨hx, hb, hml, hown, hg⟩ (k_X10_next l dC dI G _ ax hi T Y fa N B N1 B1 N2 B2 K S M E Z (xs (5 * k + 1)) (xs (5 * k + 2)) (xs (5 * k + 3))) (kwV hg mfX10_next wt_680 ⟨Nat.le_of_ble_eq_true rfl, Nat.le_of_ble_eq_true rfl⟩) (preVI hK hXI (hXI.recv hK)) rfl rfl hl.1 rfl (lv_room (Nat.le_of_ble_eq_true rfl)) dL_law_764 ⟨Nat.le_of_ble_eq_true rfl, Nat.le_of_ble_eq_true rfl⟩) hS (fun q _ h => ad_A hAx hA (by decide) hS q h) (ad_A hAx hA (by decide) hS) (fun r1 u1 t1 H1 locs1 ht1 hv1 w1 hB1 hz1 hk1 hS => ?_)
  have hMI := hMI.kept (fr_ad (lo := 0) (hi := 112) hi (by decide) (by decide) (by decide) hk1)
  have hXI : X10I dC dI G ax T Y fa N B N1 B1 N2 B2 K S M E Z H1 := by rw [← ht1]; exact hB1
  refine W.widen (k := 129) (n := 4562) (by omega) (by omega) ?_
  refine lv_pop hx hb dL_law_767 rfl ?_
  refine lv_aload_n hx hb dL_law_768 rfl (lv_at hl 1 rfl) ?_
  refine lv_aload_n hx hb dL_law_769 rfl (lv_at hl 3 rfl) ?_
  refine lv_iload_n hx hb dL_law_770 rfl (lv_at hl 0 rfl) ?_
  refine lv_iconst (v := 1) hx hb dL_law_771 (by decide) ?_
  refine lv_iadd hx hb dL_law_772 ?_
  refine lv_cg (y := nI (5 * k + 1)) (by rw [show (1 : Int32) = nI 1 from rfl]; exact nI_add _ _) ?_
  refine va_sld hx hb hX hbl hbA hS (vp_in_nI (by omega) (by omega)) dL_law_773 ?_
  refine lv_cg (y := xs (5 * k + 1)) (by rw [nI_clamp (by omega)]) ?_
  refine lv_aload_n hx hb dL_law_774 rfl (lv_at hl 3 rfl) ?_
  refine lv_iload_n hx hb dL_law_775 rfl (lv_at hl 0 rfl) ?_
  refine lv_iconst (v := 2) hx hb dL_law_776 (by decide) ?_
  refine lv_iadd hx hb dL_law_777 ?_
  refine lv_cg (y := nI (5 * k + 2)) (by rw [show (2 : Int32) = nI 2 from rfl]; exact nI_add _ _) ?_
  refine va_sld hx hb hX hbl hbA hS (vp_in_nI (by omega) (by omega)) dL_law_778 ?_
  refine lv_cg (y := xs (5 * k + 2)) (by rw [nI_clamp (by omega)]) ?_
  refine lv_aload_n hx hb dL_law_779 rfl (lv_at hl 3 rfl) ?_
  refine lv_iload_n hx hb dL_law_780 rfl (lv_at hl 0 rfl) ?_
  refine lv_iconst (v := 3) hx hb dL_law_781 (by decide) ?_
  refine lv_iadd hx hb dL_law_782 ?_
  refine lv_cg (y := nI (5 * k + 3)) (by rw [show (3 : Int32) = nI 3 from rfl]; exact nI_add _ _) ?_
  refine va_sld hx hb hX hbl hbA hS (vp_in_nI (by omega) (by omega)) dL_law_783 ?_
  refine lv_cg (y := xs (5 * k + 3)) (by rw [nI_clamp (by omega)]) ?_
  refine va_calli (va_runV (As := [.int (xs (5 * k + 1)), .int (xs (5 * k + 2)), .int (xs (5 * k + 3))]) (rest := []) ⟨hx, hb, hml, hown, hg⟩ (k_X11_next l dC dI G _ ax hi T Y fa N B N1 B1 N2 B2 K S M E Z (xs (5 * k + 1)) (xs (5 * k + 2)) (xs (5 * k + 3))) (kwV hg mfX11_next wt_1162 ⟨Nat.le_of_ble_eq_true rfl, Nat.le_of_ble_eq_true rfl⟩) (preVI hK hMI (hMI.recv hK)) rfl rfl hl.1 rfl (lv_room (Nat.le_of_ble_eq_true rfl)) dL_law_784 ⟨Nat.le_of_ble_eq_true rfl, Nat.le_of_ble_eq_true rfl⟩) hS (fun q _ h => ad_A hAx hA (by decide) hS q h) (ad_A hAx hA (by decide) hS) (fun r2 u2 t2 H2 locs2 ht2 hv2 w2 hB2 hz2 hk2 hS => ?_)
  have hXI := hXI.kept (fr_ad (lo := 112) (hi := 129) hi (by decide) (by decide) (by decide) hk2)
  have hMI : X11I dC dI G ax T Y fa N B N1 B1 N2 B2 K S M E Z H2 := by rw [← ht2]; exact hB2
  refine W.widen (k := 129) (n := 4562) (by omega) (by omega) ?_
  refine lv_pop hx hb dL_law_787 rfl ?_
  refine lv_goto (tgt := 1381) hx hb dL_law_788 (by decide) ?_
  exact kk _ _ ⟨_, _, _, _, _, _, _, _, _, _, _, _, _, _, hXI, hMI⟩ hS

set_option maxHeartbeats 1000000 in
set_option maxRecDepth 100000 in
theorem lc_without {p : Program} {l : Launch} {e : Env} {s : State} {m : MethodId} {below : List Frame} {meth : Method} {c : Code} {b L : Nat} {xs : Nat → Int32} {dC : Nat → ClassId} {dI : Nat → Nat → Nat} {G : Nat → ClassId} {ax adK adV : Nat → Nat} {A : Nat → Prop} {Q : State → Prop} (C1 : lw_C p s m c b L xs dC dI G ax adK adV A) {k : Nat} (hk : 5 * k + 5 ≤ L) (hL : L ≤ 2560) {H : Heap} {locs : List Loc} {ls : Array Slot} (hI : LI dC dI G ax H) (hS : va_S A s.heap H locs) (hl : lv_has ls 4 [(3, .int (nI (5 * k))), (2, .ref (ax 112)), (1, .ref (ax 0)), (0, .ref b)]) (kk : ∀ (H : Heap) (locs : List Loc), LI dC dI G ax H → va_S A s.heap H locs → W p l e room_1 s m #[Value.ref b] below meth c H locs 129 4562 Q (F0 m 1381 ls [])) : W p l e room_1 s m #[Value.ref b] below meth c H locs 129 4562 Q (F0 m 791 ls []) := by
  obtain ⟨hx, hb, hml, hown, hg, hX, hbl, hbA, hK, hi, hAx, hA, hSS⟩ := C1
  obtain ⟨T, Y, fa, N, B, N1, B1, N2, B2, K, S, M, E, Z, hXI, hMI⟩ := hI
  refine lv_aload_n hx hb dL_law_791 rfl (lv_at hl 2 rfl) ?_
  refine lv_aload_n hx hb dL_law_792 rfl (lv_at hl 3 rfl) ?_
  refine lv_iload_n hx hb dL_law_793 rfl (lv_at hl 0 rfl) ?_
  refine lv_iconst (v := 1) hx hb dL_law_794 (by decide) ?_
  refine lv_iadd hx hb dL_law_795 ?_
  refine lv_cg (y := nI (5 * k + 1)) (by rw [show (1 : Int32) = nI 1 from rfl]; exact nI_add _ _) ?_
  refine va_sld hx hb hX hbl hbA hS (vp_in_nI (by omega) (by omega)) dL_law_796 ?_
  refine lv_cg (y := xs (5 * k + 1)) (by rw [nI_clamp (by omega)]) ?_
  refine lv_aload_n hx hb dL_law_797 rfl (lv_at hl 3 rfl) ?_
  refine lv_iload_n hx hb dL_law_798 rfl (lv_at hl 0 rfl) ?_
  refine lv_iconst (v := 2) hx hb dL_law_799 (by decide) ?_
  refine lv_iadd hx hb dL_law_800 ?_
  refine lv_cg (y := nI (5 * k + 2)) (by rw [show (2 : Int32) = nI 2 from rfl]; exact nI_add _ _) ?_
  refine va_sld hx hb hX hbl hbA hS (vp_in_nI (by omega) (by omega)) dL_law_801 ?_
  refine lv_cg (y := xs (5 * k + 2)) (by rw [nI_clamp (by omega)]) ?_
  refine va_calll (va_runV (As := [.int (xs (5 * k + 1)), .int (xs (5 * k + 2))]) (rest := []) ⟨hx, hb, hml, hown, hg⟩ (k_X10_without l dC dI G _ ax hi T Y fa N B N1 B1 N2 B2 K S M E Z (xs (5 * k + 1)) (xs (5 * k + 2))) (kwV hg mfX10_without wt_685 ⟨Nat.le_of_ble_eq_true rfl, Nat.le_of_ble_eq_true rfl⟩) (preVI hK hXI (hXI.recv hK)) rfl rfl hl.1 rfl (lv_room (Nat.le_of_ble_eq_true rfl)) dL_law_802 ⟨Nat.le_of_ble_eq_true rfl, Nat.le_of_ble_eq_true rfl⟩) hS (fun q _ h => ad_A hAx hA (by decide) hS q h) (ad_A hAx hA (by decide) hS) (fun r1 u1 t1 H1 locs1 ht1 hv1 w1 hB1 hz1 hk1 hS => ?_)
  have hMI := hMI.kept (fr_ad (lo := 0) (hi := 112) hi (by decide) (by decide) (by decide) hk1)
  have hXI : X10I dC dI G ax T Y fa N B N1 B1 N2 B2 K S M E Z H1 := by rw [← ht1]; exact hB1
  refine W.widen (k := 129) (n := 4562) (by omega) (by omega) ?_
  refine lv_pop2_2 hx hb dL_law_805 rfl ?_
  refine lv_aload_n hx hb dL_law_806 rfl (lv_at hl 1 rfl) ?_
  refine lv_aload_n hx hb dL_law_807 rfl (lv_at hl 3 rfl) ?_
  refine lv_iload_n hx hb dL_law_808 rfl (lv_at hl 0 rfl) ?_
  refine lv_iconst (v := 1) hx hb dL_law_809 (by decide) ?_
  refine lv_iadd hx hb dL_law_810 ?_
  refine lv_cg (y := nI (5 * k + 1)) (by rw [show (1 : Int32) = nI 1 from rfl]; exact nI_add _ _) ?_
  refine va_sld hx hb hX hbl hbA hS (vp_in_nI (by omega) (by omega)) dL_law_811 ?_
  refine lv_cg (y := xs (5 * k + 1)) (by rw [nI_clamp (by omega)]) ?_
  refine lv_aload_n hx hb dL_law_812 rfl (lv_at hl 3 rfl) ?_
  refine lv_iload_n hx hb dL_law_813 rfl (lv_at hl 0 rfl) ?_
  refine lv_iconst (v := 2) hx hb dL_law_814 (by decide) ?_
  refine lv_iadd hx hb dL_law_815 ?_
  refine lv_cg (y := nI (5 * k + 2)) (by rw [show (2 : Int32) = nI 2 from rfl]; exact nI_add _ _) ?_
  refine va_sld hx hb hX hbl hbA hS (vp_in_nI (by omega) (by omega)) dL_law_816 ?_
  refine lv_cg (y := xs (5 * k + 2)) (by rw [nI_clamp (by omega)]) ?_
  refine va_calll (va_runV (As := [.int (xs (5 * k + 1)), .int (xs (5 * k + 2))]) (rest := []) ⟨hx, hb, hml, hown, hg⟩ (k_X11_without l dC dI G _ ax hi T Y fa N B N1 B1 N2 B2 K S M E Z (xs (5 * k + 1)) (xs (5 * k + 2))) (kwV hg mfX11_without wt_1166 ⟨Nat.le_of_ble_eq_true rfl, Nat.le_of_ble_eq_true rfl⟩) (preVI hK hMI (hMI.recv hK)) rfl rfl hl.1 rfl (lv_room (Nat.le_of_ble_eq_true rfl)) dL_law_817 ⟨Nat.le_of_ble_eq_true rfl, Nat.le_of_ble_eq_true rfl⟩) hS (fun q _ h => ad_A hAx hA (by decide) hS q h) (ad_A hAx hA (by decide) hS) (fun r2 u2 t2 H2 locs2 ht2 hv2 w2 hB2 hz2 hk2 hS => ?_)
  have hXI := hXI.kept (fr_ad (lo := 112) (hi := 129) hi (by decide) (by decide) (by decide) hk2)
  have hMI : X11I dC dI G ax T Y fa N B N1 B1 N2 B2 K S M E Z H2 := by rw [← ht2]; exact hB2
  refine W.widen (k := 129) (n := 4562) (by omega) (by omega) ?_
  refine lv_pop2_2 hx hb dL_law_820 rfl ?_
  refine lv_goto (tgt := 1381) hx hb dL_law_821 (by decide) ?_
  exact kk _ _ ⟨_, _, _, _, _, _, _, _, _, _, _, _, _, _, hXI, hMI⟩ hS
