set_option maxHeartbeats 4000000 in
set_option maxRecDepth 100000 in
theorem law_loop {p : Program} {l : Launch} {e : Env} {s : State} {m : MethodId} {below : List Frame} {meth : Method} {c : Code} {b L : Nat} {xs : Nat → Int32} {dC : Nat → ClassId} {dI : Nat → Nat → Nat} {G : Nat → ClassId} {ax adK adV : Nat → Nat} {A : Nat → Prop} (C1 : lw_C p s m c b L xs dC dI G ax adK adV A) (hr : meth.sig.returnType = ret) (hlocks : meth.locks = false) (hAd : A = fun q : Nat => s.heap.size ≤ q) (hL : L ≤ 2560) : ∀ (n k : Nat), 513 ≤ k + n → 5 * k ≤ 2560 → ∀ (H : Heap) (locs : List Loc) (ls : Array Slot), LI dC dI G ax H → va_S A s.heap H locs → lv_has ls 4 [(3, .int (nI (5 * k))), (2, .ref (ax 112)), (1, .ref (ax 0)), (0, .ref b)] → W p l e room_1 s m #[Value.ref b] below meth c H locs 129 4562 (lw_Z below #[Value.ref b] s) (F0 m 18 ls []) := by
  obtain ⟨hx, hb, hml, hown, hg, hX, hbl, hbA, hK, hi, hAx, hA, hSS⟩ := id C1
  intro n
  induction n with
  | zero => intro k h1 h2; exact absurd h1 (by omega)
  | succ n ih =>
    intro k h1 h2 H locs ls hI hS hl
    have step : ∀ (H : Heap) (locs : List Loc), 5 * k + 5 ≤ L → LI dC dI G ax H → va_S A s.heap H locs → W p l e room_1 s m #[Value.ref b] below meth c H locs 129 4562 (lw_Z below #[Value.ref b] s) (F0 m 1381 ls []) := by
      intro H locs h3 hI hS
      refine lv_iinc (v := nI (5 * (k + 1))) (lv' := [(3, .int (nI (5 * (k + 1)))), (2, .ref (ax 112)), (1, .ref (ax 0)), (0, .ref b)]) hx hb dL_law_1381 hl (k := 0) rfl (by rw [show Int32.ofInt 5 = nI 5 from by decide]; exact nI_add _ _) (by decide) rfl (fun ls hl => ?_)
      refine lv_goto (tgt := 18) hx hb dL_law_1384 (by decide) ?_
      exact ih (k + 1) (by omega) (by omega) H locs ls hI hS hl
    refine lv_iload_n hx hb dL_law_18 rfl (lv_at hl 0 rfl) ?_
    refine lv_aload_n hx hb dL_law_19 rfl (lv_at hl 3 rfl) ?_
    refine va_slen hx hb hX hbl hbA hS dL_law_20 ?_
    refine lv_cg (y := nI L) rfl ?_
    refine lv_iconst (v := 5) hx hb dL_law_21 (by decide) ?_
    refine lv_isub hx hb dL_law_22 ?_
    have e5 : (nI L - 5).toInt = (L : Int) - 5 := by rw [show (5 : Int32) = nI 5 from rfl]; exact pk_sub_toInt (by omega) (by omega)
    have e6 : (nI (5 * k)).toInt = ((5 * k : Nat) : Int) := nI_toInt (by omega)
    refine lv_icmp_gt (tgt := 1387) hx hb dL_law_23 (by decide) (fun c1 => ?_) (fun c1 => ?_)
    · refine lv_iconst (v := 1) hx hb dL_law_1387 (by decide) ?_
      refine va_forget (fun q hq => by have h9 := hS.2.2 q hq; rw [hAd] at h9; exact h9) ?_
      refine W.widen (k := 600000) (n := 7302249) (by omega) (by omega) ?_
      exact lw_ret hx hb hr hlocks dL_law_1388
    · have t1 := nltI c1
      have hk : 5 * k + 5 ≤ L := by omega
      refine lv_aload_n hx hb dL_law_26 rfl (lv_at hl 3 rfl) ?_
      refine lv_iload_n hx hb dL_law_27 rfl (lv_at hl 0 rfl) ?_
      refine va_sld hx hb hX hbl hbA hS (vp_in_nI (by omega) (by omega)) dL_law_28 ?_
      refine lv_bipush (v := 63) hx hb dL_law_29 (by decide) ?_
      refine lv_iand hx hb dL_law_31 ?_
      refine lv_topi (fun x ex => ?_)
      by_cases s0 : x = 0
      · refine lv_cg s0 ?_
        refine lv_tableIn (tgt := 204) hx hb dL_law_32 (by decide) (by decide) rfl (by decide) ?_
        exact lc_feed C1 hk hL hI hS hl (fun H locs hI hS => step H locs hk hI hS)
      by_cases s1 : x = 1
      · refine lv_cg s1 ?_
        refine lv_tableIn (tgt := 257) hx hb dL_law_32 (by decide) (by decide) rfl (by decide) ?_
        exact lc_end C1 hk hL hI hS hl (fun H locs hI hS => step H locs hk hI hS)
      by_cases s2 : x = 2
      · refine lv_cg s2 ?_
        refine lv_tableIn (tgt := 280) hx hb dL_law_32 (by decide) (by decide) rfl (by decide) ?_
        exact lc_text C1 hk hL hI hS hl (fun H locs hI hS => step H locs hk hI hS)
      by_cases s3 : x = 3
      · refine lv_cg s3 ?_
        refine lv_tableIn (tgt := 293) hx hb dL_law_32 (by decide) (by decide) rfl (by decide) ?_
        exact lc_fault C1 hk hL hI hS hl (fun H locs hI hS => step H locs hk hI hS)
      by_cases s4 : x = 4
      · refine lv_cg s4 ?_
        refine lv_tableIn (tgt := 306) hx hb dL_law_32 (by decide) (by decide) rfl (by decide) ?_
        exact lc_rule C1 hk hL hI hS hl (fun H locs hI hS => step H locs hk hI hS)
      by_cases s5 : x = 5
      · refine lv_cg s5 ?_
        refine lv_tableIn (tgt := 329) hx hb dL_law_32 (by decide) (by decide) rfl (by decide) ?_
        exact lc_stretch C1 hk hL hI hS hl (fun H locs hI hS => step H locs hk hI hS)
      by_cases s6 : x = 6
      · refine lv_cg s6 ?_
        refine lv_tableIn (tgt := 362) hx hb dL_law_32 (by decide) (by decide) rfl (by decide) ?_
        exact lc_bearer C1 hk hL hI hS hl (fun H locs hI hS => step H locs hk hI hS)
      by_cases s7 : x = 7
      · refine lv_cg s7 ?_
        refine lv_tableIn (tgt := 395) hx hb dL_law_32 (by decide) (by decide) rfl (by decide) ?_
        exact lc_start C1 hk hL hI hS hl (fun H locs hI hS => step H locs hk hI hS)
      by_cases s8 : x = 8
      · refine lv_cg s8 ?_
        refine lv_tableIn (tgt := 418) hx hb dL_law_32 (by decide) (by decide) rfl (by decide) ?_
        exact lc_noise C1 hk hL hI hS hl (fun H locs hI hS => step H locs hk hI hS)
      by_cases s9 : x = 9
      · refine lv_cg s9 ?_
        refine lv_tableIn (tgt := 451) hx hb dL_law_32 (by decide) (by decide) rfl (by decide) ?_
        exact lc_cold C1 hk hL hI hS hl (fun H locs hI hS => step H locs hk hI hS)
      by_cases s10 : x = 10
      · refine lv_cg s10 ?_
        refine lv_tableIn (tgt := 484) hx hb dL_law_32 (by decide) (by decide) rfl (by decide) ?_
        exact lc_step C1 hk hL hI hS hl (fun H locs hI hS => step H locs hk hI hS)
      by_cases s11 : x = 11
      · refine lv_cg s11 ?_
        refine lv_tableIn (tgt := 517) hx hb dL_law_32 (by decide) (by decide) rfl (by decide) ?_
        exact lc_warm C1 hk hL hI hS hl (fun H locs hI hS => step H locs hk hI hS)
      by_cases s12 : x = 12
      · refine lv_cg s12 ?_
        refine lv_tableIn (tgt := 550) hx hb dL_law_32 (by decide) (by decide) rfl (by decide) ?_
        exact lc_put C1 hk hL hI hS hl (fun H locs hI hS => step H locs hk hI hS)
      by_cases s13 : x = 13
      · refine lv_cg s13 ?_
        refine lv_tableIn (tgt := 583) hx hb dL_law_32 (by decide) (by decide) rfl (by decide) ?_
        exact lc_harm C1 hk hL hI hS hl (fun H locs hI hS => step H locs hk hI hS)
      by_cases s14 : x = 14
      · refine lv_cg s14 ?_
        refine lv_tableIn (tgt := 626) hx hb dL_law_32 (by decide) (by decide) rfl (by decide) ?_
        exact lc_wakes C1 hk hL hI hS hl (fun H locs hI hS => step H locs hk hI hS)
      by_cases s15 : x = 15
      · refine lv_cg s15 ?_
        refine lv_tableIn (tgt := 649) hx hb dL_law_32 (by decide) (by decide) rfl (by decide) ?_
        exact lc_awake C1 hk hL hI hS hl (fun H locs hI hS => step H locs hk hI hS)
      by_cases s16 : x = 16
      · refine lv_cg s16 ?_
        refine lv_tableIn (tgt := 682) hx hb dL_law_32 (by decide) (by decide) rfl (by decide) ?_
        exact lc_depth C1 hk hL hI hS hl (fun H locs hI hS => step H locs hk hI hS)
      by_cases s17 : x = 17
      · refine lv_cg s17 ?_
        refine lv_tableIn (tgt := 725) hx hb dL_law_32 (by decide) (by decide) rfl (by decide) ?_
        exact lc_best C1 hk hL hI hS hl (fun H locs hI hS => step H locs hk hI hS)
      by_cases s18 : x = 18
      · refine lv_cg s18 ?_
        refine lv_tableIn (tgt := 748) hx hb dL_law_32 (by decide) (by decide) rfl (by decide) ?_
        exact lc_next C1 hk hL hI hS hl (fun H locs hI hS => step H locs hk hI hS)
      by_cases s19 : x = 19
      · refine lv_cg s19 ?_
        refine lv_tableIn (tgt := 791) hx hb dL_law_32 (by decide) (by decide) rfl (by decide) ?_
        exact lc_without C1 hk hL hI hS hl (fun H locs hI hS => step H locs hk hI hS)
      by_cases s20 : x = 20
      · refine lv_cg s20 ?_
        refine lv_tableIn (tgt := 824) hx hb dL_law_32 (by decide) (by decide) rfl (by decide) ?_
        exact lc_quiet C1 hk hL hI hS hl (fun H locs hI hS => step H locs hk hI hS)
      by_cases s21 : x = 21
      · refine lv_cg s21 ?_
        refine lv_tableIn (tgt := 857) hx hb dL_law_32 (by decide) (by decide) rfl (by decide) ?_
        exact lc_drop C1 hk hL hI hS hl (fun H locs hI hS => step H locs hk hI hS)
      by_cases s22 : x = 22
      · refine lv_cg s22 ?_
        refine lv_tableIn (tgt := 880) hx hb dL_law_32 (by decide) (by decide) rfl (by decide) ?_
        exact lc_swap C1 hk hL hI hS hl (fun H locs hI hS => step H locs hk hI hS)
      by_cases s23 : x = 23
      · refine lv_cg s23 ?_
        refine lv_tableIn (tgt := 903) hx hb dL_law_32 (by decide) (by decide) rfl (by decide) ?_
        exact lc_carry C1 hk hL hI hS hl (fun H locs hI hS => step H locs hk hI hS)
      by_cases s24 : x = 24
      · refine lv_cg s24 ?_
        refine lv_tableIn (tgt := 936) hx hb dL_law_32 (by decide) (by decide) rfl (by decide) ?_
        exact lc_learn C1 hk hL hI hS hl (fun H locs hI hS => step H locs hk hI hS)
      by_cases s25 : x = 25
      · refine lv_cg s25 ?_
        refine lv_tableIn (tgt := 989) hx hb dL_law_32 (by decide) (by decide) rfl (by decide) ?_
        exact lc_forget C1 hk hL hI hS hl (fun H locs hI hS => step H locs hk hI hS)
      by_cases s26 : x = 26
      · refine lv_cg s26 ?_
        refine lv_tableIn (tgt := 1012) hx hb dL_law_32 (by decide) (by decide) rfl (by decide) ?_
        exact lc_steps C1 hk hL hI hS hl (fun H locs hI hS => step H locs hk hI hS)
      by_cases s27 : x = 27
      · refine lv_cg s27 ?_
        refine lv_tableIn (tgt := 1045) hx hb dL_law_32 (by decide) (by decide) rfl (by decide) ?_
        exact lc_mark C1 hk hL hI hS hl (fun H locs hI hS => step H locs hk hI hS)
      by_cases s28 : x = 28
      · refine lv_cg s28 ?_
        refine lv_tableIn (tgt := 1078) hx hb dL_law_32 (by decide) (by decide) rfl (by decide) ?_
        exact lc_wipe C1 hk hL hI hS hl (fun H locs hI hS => step H locs hk hI hS)
      by_cases s29 : x = 29
      · refine lv_cg s29 ?_
        refine lv_tableIn (tgt := 1101) hx hb dL_law_32 (by decide) (by decide) rfl (by decide) ?_
        exact lc_paths C1 hk hL hI hS hl (fun H locs hI hS => step H locs hk hI hS)
      by_cases s30 : x = 30
      · refine lv_cg s30 ?_
        refine lv_tableIn (tgt := 1114) hx hb dL_law_32 (by decide) (by decide) rfl (by decide) ?_
        exact lc_eye C1 hk hL hI hS hl (fun H locs hI hS => step H locs hk hI hS)
      by_cases s31 : x = 31
      · refine lv_cg s31 ?_
        refine lv_tableIn (tgt := 1137) hx hb dL_law_32 (by decide) (by decide) rfl (by decide) ?_
        exact lc_sure C1 hk hL hI hS hl (fun H locs hI hS => step H locs hk hI hS)
      by_cases s32 : x = 32
      · refine lv_cg s32 ?_
        refine lv_tableIn (tgt := 1160) hx hb dL_law_32 (by decide) (by decide) rfl (by decide) ?_
        exact lc_keep C1 hk hL hI hS hl (fun H locs hI hS => step H locs hk hI hS)
      by_cases s33 : x = 33
      · refine lv_cg s33 ?_
        refine lv_tableIn (tgt := 1183) hx hb dL_law_32 (by decide) (by decide) rfl (by decide) ?_
        exact lc_back C1 hk hL hI hS hl (fun H locs hI hS => step H locs hk hI hS)
      by_cases s34 : x = 34
      · refine lv_cg s34 ?_
        refine lv_tableIn (tgt := 1206) hx hb dL_law_32 (by decide) (by decide) rfl (by decide) ?_
        exact lc_sheet C1 hk hL hI hS hl (fun H locs hI hS => step H locs hk hI hS)
      by_cases s35 : x = 35
      · refine lv_cg s35 ?_
        refine lv_tableIn (tgt := 1249) hx hb dL_law_32 (by decide) (by decide) rfl (by decide) ?_
        exact lc_lay C1 hk hL hI hS hl (fun H locs hI hS => step H locs hk hI hS)
      by_cases s36 : x = 36
      · refine lv_cg s36 ?_
        refine lv_tableIn (tgt := 1292) hx hb dL_law_32 (by decide) (by decide) rfl (by decide) ?_
        exact lc_read C1 hk hL hI hS hl (fun H locs hI hS => step H locs hk hI hS)
      by_cases s37 : x = 37
      · refine lv_cg s37 ?_
        refine lv_tableIn (tgt := 1345) hx hb dL_law_32 (by decide) (by decide) rfl (by decide) ?_
        exact lc_torn C1 hk hL hI hS hl (fun H locs hI hS => step H locs hk hI hS)
      by_cases s38 : x = 38
      · refine lv_cg s38 ?_
        refine lv_tableIn (tgt := 1358) hx hb dL_law_32 (by decide) (by decide) rfl (by decide) ?_
        exact lc_count C1 hk hL hI hS hl (fun H locs hI hS => step H locs hk hI hS)
      have g0 : ¬ x.toInt = 0 := by have t := neI s0; rw [show (0 : Int32).toInt = 0 from by decide] at t; exact t
      have g1 : ¬ x.toInt = 1 := by have t := neI s1; rw [show (1 : Int32).toInt = 1 from by decide] at t; exact t
      have g2 : ¬ x.toInt = 2 := by have t := neI s2; rw [show (2 : Int32).toInt = 2 from by decide] at t; exact t
      have g3 : ¬ x.toInt = 3 := by have t := neI s3; rw [show (3 : Int32).toInt = 3 from by decide] at t; exact t
      have g4 : ¬ x.toInt = 4 := by have t := neI s4; rw [show (4 : Int32).toInt = 4 from by decide] at t; exact t
      have g5 : ¬ x.toInt = 5 := by have t := neI s5; rw [show (5 : Int32).toInt = 5 from by decide] at t; exact t
      have g6 : ¬ x.toInt = 6 := by have t := neI s6; rw [show (6 : Int32).toInt = 6 from by decide] at t; exact t
      have g7 : ¬ x.toInt = 7 := by have t := neI s7; rw [show (7 : Int32).toInt = 7 from by decide] at t; exact t
      have g8 : ¬ x.toInt = 8 := by have t := neI s8; rw [show (8 : Int32).toInt = 8 from by decide] at t; exact t
      have g9 : ¬ x.toInt = 9 := by have t := neI s9; rw [show (9 : Int32).toInt = 9 from by decide] at t; exact t
      have g10 : ¬ x.toInt = 10 := by have t := neI s10; rw [show (10 : Int32).toInt = 10 from by decide] at t; exact t
      have g11 : ¬ x.toInt = 11 := by have t := neI s11; rw [show (11 : Int32).toInt = 11 from by decide] at t; exact t
      have g12 : ¬ x.toInt = 12 := by have t := neI s12; rw [show (12 : Int32).toInt = 12 from by decide] at t; exact t
      have g13 : ¬ x.toInt = 13 := by have t := neI s13; rw [show (13 : Int32).toInt = 13 from by decide] at t; exact t
      have g14 : ¬ x.toInt = 14 := by have t := neI s14; rw [show (14 : Int32).toInt = 14 from by decide] at t; exact t
      have g15 : ¬ x.toInt = 15 := by have t := neI s15; rw [show (15 : Int32).toInt = 15 from by decide] at t; exact t
      have g16 : ¬ x.toInt = 16 := by have t := neI s16; rw [show (16 : Int32).toInt = 16 from by decide] at t; exact t
      have g17 : ¬ x.toInt = 17 := by have t := neI s17; rw [show (17 : Int32).toInt = 17 from by decide] at t; exact t
      have g18 : ¬ x.toInt = 18 := by have t := neI s18; rw [show (18 : Int32).toInt = 18 from by decide] at t; exact t
      have g19 : ¬ x.toInt = 19 := by have t := neI s19; rw [show (19 : Int32).toInt = 19 from by decide] at t; exact t
      have g20 : ¬ x.toInt = 20 := by have t := neI s20; rw [show (20 : Int32).toInt = 20 from by decide] at t; exact t
      have g21 : ¬ x.toInt = 21 := by have t := neI s21; rw [show (21 : Int32).toInt = 21 from by decide] at t; exact t
      have g22 : ¬ x.toInt = 22 := by have t := neI s22; rw [show (22 : Int32).toInt = 22 from by decide] at t; exact t
      have g23 : ¬ x.toInt = 23 := by have t := neI s23; rw [show (23 : Int32).toInt = 23 from by decide] at t; exact t
      have g24 : ¬ x.toInt = 24 := by have t := neI s24; rw [show (24 : Int32).toInt = 24 from by decide] at t; exact t
      have g25 : ¬ x.toInt = 25 := by have t := neI s25; rw [show (25 : Int32).toInt = 25 from by decide] at t; exact t
      have g26 : ¬ x.toInt = 26 := by have t := neI s26; rw [show (26 : Int32).toInt = 26 from by decide] at t; exact t
      have g27 : ¬ x.toInt = 27 := by have t := neI s27; rw [show (27 : Int32).toInt = 27 from by decide] at t; exact t
      have g28 : ¬ x.toInt = 28 := by have t := neI s28; rw [show (28 : Int32).toInt = 28 from by decide] at t; exact t
      have g29 : ¬ x.toInt = 29 := by have t := neI s29; rw [show (29 : Int32).toInt = 29 from by decide] at t; exact t
      have g30 : ¬ x.toInt = 30 := by have t := neI s30; rw [show (30 : Int32).toInt = 30 from by decide] at t; exact t
      have g31 : ¬ x.toInt = 31 := by have t := neI s31; rw [show (31 : Int32).toInt = 31 from by decide] at t; exact t
      have g32 : ¬ x.toInt = 32 := by have t := neI s32; rw [show (32 : Int32).toInt = 32 from by decide] at t; exact t
      have g33 : ¬ x.toInt = 33 := by have t := neI s33; rw [show (33 : Int32).toInt = 33 from by decide] at t; exact t
      have g34 : ¬ x.toInt = 34 := by have t := neI s34; rw [show (34 : Int32).toInt = 34 from by decide] at t; exact t
      have g35 : ¬ x.toInt = 35 := by have t := neI s35; rw [show (35 : Int32).toInt = 35 from by decide] at t; exact t
      have g36 : ¬ x.toInt = 36 := by have t := neI s36; rw [show (36 : Int32).toInt = 36 from by decide] at t; exact t
      have g37 : ¬ x.toInt = 37 := by have t := neI s37; rw [show (37 : Int32).toInt = 37 from by decide] at t; exact t
      have g38 : ¬ x.toInt = 38 := by have t := neI s38; rw [show (38 : Int32).toInt = 38 from by decide] at t; exact t
      refine lv_tableOut (tgt := 1381) hx hb dL_law_32 (by omega) (by decide) ?_
      exact step H locs hk hI hS
