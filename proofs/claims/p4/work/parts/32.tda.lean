def bC (v : Int64) (s : Int32) : Int32 := ((v.toUInt64 >>> (s.toInt64.toUInt64 &&& Int64.toUInt64 63)).toInt64 &&& 255).toInt32
def bR (v : Int64) (s : Int32) : Int32 := (v >>> (s.toInt64 &&& 63)).toInt32 &&& 255
theorem bv_sh (x : BitVec 64) (s : Nat) (hs : s ≤ 56) : ((x >>> s) &&& 255#64).signExtend 32 = (x.sshiftRight s).signExtend 32 &&& 255#32 := by
  rw [BitVec.signExtend_eq_setWidth_of_le _ (by decide), BitVec.signExtend_eq_setWidth_of_le _ (by decide)]
  apply BitVec.eq_of_getLsbD_eq
  intro i hi
  rw [BitVec.getLsbD_setWidth, BitVec.getLsbD_and, BitVec.getLsbD_ushiftRight, BitVec.getLsbD_and, BitVec.getLsbD_setWidth, BitVec.getLsbD_sshiftRight]
  have e1 : (255#64).getLsbD i = (decide (i < 64) && Nat.testBit 255 i) := BitVec.getLsbD_ofNat 64 255 i
  have e2 : (255#32).getLsbD i = (decide (i < 32) && Nat.testBit 255 i) := BitVec.getLsbD_ofNat 32 255 i
  rw [e1, e2]
  by_cases h : i < 8
  · rw [if_pos (show s + i < 64 by omega), decide_eq_true (show i < 64 by omega), decide_eq_true hi, decide_eq_false (show ¬ 64 ≤ i by omega)]
    rfl
  · have t : Nat.testBit 255 i = false := Nat.testBit_lt_two_pow (Nat.lt_of_lt_of_le (show 255 < 2 ^ 8 by decide) (Nat.pow_le_pow_right (by decide) (by omega)))
    rw [t]
    simp only [Bool.and_false]
theorem b56 (v : Int64) : bC v 56 = bR v 56 := Int32.toBitVec_inj.mp (bv_sh v.toBitVec 56 (by decide))
theorem b48 (v : Int64) : bC v 48 = bR v 48 := Int32.toBitVec_inj.mp (bv_sh v.toBitVec 48 (by decide))
theorem b40 (v : Int64) : bC v 40 = bR v 40 := Int32.toBitVec_inj.mp (bv_sh v.toBitVec 40 (by decide))
theorem b32 (v : Int64) : bC v 32 = bR v 32 := Int32.toBitVec_inj.mp (bv_sh v.toBitVec 32 (by decide))
theorem b24 (v : Int64) : bC v 24 = bR v 24 := Int32.toBitVec_inj.mp (bv_sh v.toBitVec 24 (by decide))
theorem b16 (v : Int64) : bC v 16 = bR v 16 := Int32.toBitVec_inj.mp (bv_sh v.toBitVec 16 (by decide))
theorem b8 (v : Int64) : bC v 8 = bR v 8 := Int32.toBitVec_inj.mp (bv_sh v.toBitVec 8 (by decide))
theorem b0 (v : Int64) : bC v 0 = bR v 0 := Int32.toBitVec_inj.mp (bv_sh v.toBitVec 0 (by decide))
def fdC (f : Nat → Int32) (T : Nat) (v : Int64) : Nat → Int32 := upd (upd (upd (upd (upd (upd (upd (upd f T (bC v 56)) (T + 1) (bC v 48)) (T + 2) (bC v 40)) (T + 3) (bC v 32)) (T + 4) (bC v 24)) (T + 5) (bC v 16)) (T + 6) (bC v 8)) (T + 7) (bC v 0)
theorem fdC_R {f : Nat → Int32} {T : Nat} {v : Int64} : fdC f T v = upd (upd (upd (upd (upd (upd (upd (upd f T (bR v 56)) (T + 1) (bR v 48)) (T + 2) (bR v 40)) (T + 3) (bR v 32)) (T + 4) (bR v 24)) (T + 5) (bR v 16)) (T + 6) (bR v 8)) (T + 7) (bR v 0) := by
  unfold fdC
  rw [b56, b48, b40, b32, b24, b16, b8, b0]
theorem and255 (y : Int32) : 0 ≤ (y &&& 255).toInt := by
  have h : (y &&& 255).toBitVec.toNat ≤ 255 := by
    rw [Int32.toBitVec_and, BitVec.toNat_and]
    exact Nat.and_le_right
  show 0 ≤ (y &&& 255).toBitVec.toInt
  rw [BitVec.toInt_eq_toNat_of_lt (by omega)]
  omega
theorem upd_nn {f : Nat → Int32} {k : Nat} {x : Int32} (h : ∀ q : Nat, q < 320 → 0 ≤ (f q).toInt) (hx : 0 ≤ x.toInt) : ∀ q : Nat, q < 320 → 0 ≤ (upd f k x q).toInt := by
  intro q hq
  show 0 ≤ (if q = k then x else f q).toInt
  split
  · exact hx
  · exact h q hq
theorem fd_nn {f : Nat → Int32} {T : Nat} {v : Int64} (h : ∀ q : Nat, q < 320 → 0 ≤ (f q).toInt) : ∀ q : Nat, q < 320 → 0 ≤ ((if T + 8 ≤ 320 then fdC f T v else f) q).toInt := by
  split
  · rw [fdC_R]
    exact upd_nn (upd_nn (upd_nn (upd_nn (upd_nn (upd_nn (upd_nn (upd_nn h (and255 _)) (and255 _)) (and255 _)) (and255 _)) (and255 _)) (and255 _)) (and255 _)) (and255 _)
  · exact h
/-- the text, told by the tape alone -/
def TQ (f : Nat → Int32) (T : Nat) : LSt × Nat := txQ f T 0 0 0 0 (fun _ => 0)
def txF (f : Nat → Int32) (T : Nat) : Int32 := (txE (TQ f T).1).1
def txA (f : Nat → Int32) (T : Nat) : Int32 := if 0 < (txF f T).toInt then (-10) - (txE (TQ f T).1).2.1 else nI (TQ f T).2
theorem RF.pos {c : CS5} {s : RSt} (h : RF c s) : 0 < s.1.toInt := by rw [h.2.1]; exact h.1
theorem txt_cf {f : Nat → Int32} {T : Nat} (h3 : T ≤ 320) {x3 : Int32} {g1 g2 g3 g4 g5 g6 : Nat → Int32} : (cFN T (cRA f T x3 g1 g2 g3 g4 g5 g6).1).1 = txF f T := by
  rcases text_sim (f := f) h3 x3 g1 g2 g3 g4 g5 g6 0 0 0 0 (fun _ => 0) with ⟨a, b, _⟩ | h
  · exact a.trans b.symm
  · exact h.2.1.symm
theorem txt_ca {f : Nat → Int32} {T : Nat} (h3 : T ≤ 320) {x3 : Int32} {g1 g2 g3 g4 g5 g6 : Nat → Int32} : (if (cFN T (cRA f T x3 g1 g2 g3 g4 g5 g6).1).1 = 0 then (cRA f T x3 g1 g2 g3 g4 g5 g6).2 else (-10) - (cFN T (cRA f T x3 g1 g2 g3 g4 g5 g6).1).2.1) = txA f T := by
  unfold txA
  rcases text_sim (f := f) h3 x3 g1 g2 g3 g4 g5 g6 0 0 0 0 (fun _ => 0) with ⟨a, b, c, _⟩ | h
  · have b' : txF f T = 0 := b
    rw [if_pos a, if_neg (by rw [b']; decide)]
    exact c
  · have e : txF f T = (cFN T (cRA f T x3 g1 g2 g3 g4 g5 g6).1).1 := h.2.1
    rw [if_neg h.m, if_pos (by rw [e]; exact h.1)]
    exact congrArg (fun z : Int32 => (-10) - z) h.2.2.symm
theorem txt_rf {f : Nat → Int32} {T : Nat} (h3 : T ≤ 320) {ba : Int32} {he : Nat} {tk va : Int32} {fp : Nat → Int32} : (txE (txQ f T ba he tk va fp).1).1 = txF f T := by
  have c := txt_cf (f := f) h3 (x3 := 0) (g1 := fun _ => 0) (g2 := fun _ => 0) (g3 := fun _ => 0) (g4 := fun _ => 0) (g5 := fun _ => 0) (g6 := fun _ => 0)
  rcases text_sim (f := f) h3 0 (fun _ => 0) (fun _ => 0) (fun _ => 0) (fun _ => 0) (fun _ => 0) (fun _ => 0) ba he tk va fp with ⟨a, b, _⟩ | h
  · exact (b.trans a.symm).trans c
  · exact h.2.1.trans c
theorem txt_ra {f : Nat → Int32} {T : Nat} (h3 : T ≤ 320) {ba : Int32} {he : Nat} {tk va : Int32} {fp : Nat → Int32} : (if 0 < (txE (txQ f T ba he tk va fp).1).1.toInt then (-10) - (txE (txQ f T ba he tk va fp).1).2.1 else nI (txQ f T ba he tk va fp).2) = txA f T := by
  have c := txt_ca (f := f) h3 (x3 := 0) (g1 := fun _ => 0) (g2 := fun _ => 0) (g3 := fun _ => 0) (g4 := fun _ => 0) (g5 := fun _ => 0) (g6 := fun _ => 0)
  rw [← c]
  rcases text_sim (f := f) h3 0 (fun _ => 0) (fun _ => 0) (fun _ => 0) (fun _ => 0) (fun _ => 0) (fun _ => 0) ba he tk va fp with ⟨a, b, d, _⟩ | h
  · rw [if_pos a, if_neg (by rw [b]; decide)]
    exact d.symm
  · rw [if_neg h.m, if_pos h.pos]
    exact congrArg (fun z : Int32 => (-10) - z) h.2.2
theorem LT0 {g : Nat → Int32} : ∀ q : Nat, q < 0 → g q = letL.getD q 0 := fun q h => absurd h (Nat.not_lt_zero q)
theorem LTs {g : Nat → Int32} {k : Nat} {c : Int32} (h : ∀ q : Nat, q < k → g q = letL.getD q 0) (hc : c = letL.getD k 0) : ∀ q : Nat, q < k + 1 → upd g k c q = letL.getD q 0 := by
  intro q hq
  show (if q = k then c else g q) = _
  split
  · rename_i e; rw [e]; exact hc
  · exact h q (by omega)
