theorem addI {x y : Int32} (h : -2147483648 ≤ x.toInt + y.toInt) (h' : x.toInt + y.toInt < 2147483648) : (x + y).toInt = x.toInt + y.toInt := by
  have e0 : (x + y).toInt = (x.toInt + y.toInt).bmod (2 ^ 32) := Int32.toInt_add x y
  rw [Int.bmod_eq_of_le (by omega) (by omega)] at e0
  exact e0
theorem subI {x y : Int32} (h : -2147483648 ≤ x.toInt - y.toInt) (h' : x.toInt - y.toInt < 2147483648) : (x - y).toInt = x.toInt - y.toInt := by
  have e0 : (x - y).toInt = (x.toInt - y.toInt).bmod (2 ^ 32) := Int32.toInt_sub x y
  rw [Int.bmod_eq_of_le (by omega) (by omega)] at e0
  exact e0
theorem hKb (x : Int32) : 0 ≤ (hK' x).toInt ∧ (hK' x).toInt ≤ 2 := by
  unfold hK'
  split
  · decide
  · split <;> decide
theorem hTrb (x y : Int32) : 0 ≤ (hTr x y).toInt ∧ (hTr x y).toInt ≤ 1 := by
  unfold hTr
  split <;> decide
theorem hPosb (x : Int32) : 0 ≤ (hPos x).toInt ∧ ((hPos x).toInt = 0 ∨ (hPos x).toInt = x.toInt) := by
  have z0 : (0 : Int32).toInt = 0 := by decide
  unfold hPos
  split
  · rw [z0]; exact ⟨by omega, Or.inl rfl⟩
  · rename_i h
    have t := nleI h
    exact ⟨by omega, Or.inr rfl⟩
theorem hTopb {x : Int32} (h : 0 ≤ x.toInt) : 0 ≤ (hTop x).toInt ∧ (hTop x).toInt ≤ 20 := by
  have z0 : (20 : Int32).toInt = 20 := by decide
  unfold hTop
  split
  · rename_i h1
    have t := leI h1
    exact ⟨h, by omega⟩
  · rw [z0]; exact ⟨by omega, by omega⟩
theorem hAbsb {x : Int32} (h : -9 ≤ x.toInt) (h' : x.toInt ≤ 9) : 0 ≤ (hAbs x).toInt ∧ (hAbs x).toInt ≤ 9 := by
  have z0 : (0 : Int32).toInt = 0 := by decide
  unfold hAbs
  split
  · rename_i h1
    have t := leI h1
    exact ⟨by omega, h'⟩
  · rename_i h1
    have t := nleI h1
    have e0 : (-x).toInt = (-x.toInt).bmod (2 ^ 32) := Int32.toInt_neg x
    rw [Int.bmod_eq_of_le (by omega) (by omega)] at e0
    exact ⟨by omega, by omega⟩
theorem hJob {q x : Int32} (h : 0 ≤ x.toInt) (h' : x.toInt ≤ 9) : 0 ≤ (hJo q x).toInt ∧ (hJo q x).toInt ≤ 9 := by
  unfold hJo
  split
  · obtain ⟨j, hj, rfl⟩ := i32_nat (x := x) (n := 10) h (by omega)
    rcases (show j = 0 ∨ j = 1 ∨ j = 2 ∨ j = 3 ∨ j = 4 ∨ j = 5 ∨ j = 6 ∨ j = 7 ∨ j = 8 ∨ j = 9 by omega) with q|q|q|q|q|q|q|q|q|q <;> subst q <;> decide
  · exact ⟨h, h'⟩
theorem rhSb {fs : Nat → Int32} (h : OKS fs) {i b : Nat} (hi : i < 10) (hb : b < 6) : 0 ≤ (rhS fs i b 0).toInt ∧ (rhS fs i b 0).toInt ≤ 19 := by
  have a1 := (h (2 * i) (by omega)).1 (by rw [Nat.mod_eq_of_lt (by omega)]; omega)
  have a2 := (h (2 * i + 1) (by omega)).1 (by rw [Nat.mod_eq_of_lt (by omega)]; omega)
  have a3 := (h (20 + 3 * b + 2) (by omega)).1 (by rw [Nat.mod_eq_of_lt (by omega)]; omega)
  have e0 : hQt fs i 0 = fs (2 * i) := if_pos rfl
  have k := hKb (fs (20 + 3 * b))
  have t := hTrb (fs (20 + 3 * b)) (fs (2 * i + 1))
  have s1 := subI (x := fs (2 * i)) (y := hK' (fs (20 + 3 * b))) (by omega) (by omega)
  have s2 := subI (x := fs (2 * i + 1)) (y := fs (20 + 3 * b + 2)) (by omega) (by omega)
  have p1 := hPosb (fs (2 * i) - hK' (fs (20 + 3 * b)))
  have p2 := hPosb (fs (2 * i + 1) - fs (20 + 3 * b + 2))
  unfold rhS
  rw [e0]
  generalize hPos (fs (2 * i) - hK' (fs (20 + 3 * b))) = A at p1 ⊢
  generalize hPos (fs (2 * i + 1) - fs (20 + 3 * b + 2)) = B at p2 ⊢
  generalize hTr (fs (20 + 3 * b)) (fs (2 * i + 1)) = C at t ⊢
  have u1 := addI (x := A) (y := B) (by omega) (by omega)
  have u2 := addI (x := A + B) (y := C) (by omega) (by omega)
  rw [u2, u1]
  exact ⟨by omega, by omega⟩
theorem rhNb {fs : Nat → Int32} (h : OKS fs) {i b : Nat} (hi : i < 10) (hb : b < 6) : 0 ≤ (rhN fs i b 0).toInt ∧ (rhN fs i b 0).toInt ≤ 20 := hTopb (rhSb h hi hb).1
theorem rhBb {fs : Nat → Int32} (h : OKS fs) {i a b : Nat} (hi : i < 10) (ha : a < 6) (hb : b < 6) : 0 ≤ (rhB fs i a b 0).toInt ∧ (rhB fs i a b 0).toInt ≤ 20 := by
  have k := rhSb h hi hb
  have a1 := (h (20 + 3 * a + 1) (by omega)).1 (by rw [Nat.mod_eq_of_lt (by omega)]; omega)
  have a2 := (h (20 + 3 * b + 1) (by omega)).1 (by rw [Nat.mod_eq_of_lt (by omega)]; omega)
  have s1 := subI (x := fs (20 + 3 * a + 1)) (y := fs (20 + 3 * b + 1)) (by omega) (by omega)
  have p1 := hAbsb (x := fs (20 + 3 * a + 1) - fs (20 + 3 * b + 1)) (by omega) (by omega)
  have p2 := hJob (q := fs (20 + 3 * b)) p1.1 p1.2
  unfold rhB
  refine hTopb ?_
  split
  · exact k.1
  · generalize hJo (fs (20 + 3 * b)) (hAbs (fs (20 + 3 * a + 1) - fs (20 + 3 * b + 1))) = J at p2 ⊢
    have u1 := addI (x := rhS fs i b 0) (y := J) (by omega) (by omega)
    omega
def pwI : Nat → Int
  | 0 => 1
  | n + 1 => pwI n * 20
theorem pwI_b {n : Nat} (h : n ≤ 9) : 1 ≤ pwI n ∧ pwI n ≤ 512000000000 := by
  rcases (show n = 0 ∨ n = 1 ∨ n = 2 ∨ n = 3 ∨ n = 4 ∨ n = 5 ∨ n = 6 ∨ n = 7 ∨ n = 8 ∨ n = 9 by omega) with h|h|h|h|h|h|h|h|h|h <;> subst h <;> decide
theorem pwI_t {n : Nat} (h : n ≤ 10) : (powF n).toInt = pwI n := by
  rcases (show n = 0 ∨ n = 1 ∨ n = 2 ∨ n = 3 ∨ n = 4 ∨ n = 5 ∨ n = 6 ∨ n = 7 ∨ n = 8 ∨ n = 9 ∨ n = 10 by omega) with h|h|h|h|h|h|h|h|h|h|h <;> subst h <;> decide
theorem mulL {x y : Int64} (h : 0 ≤ x.toInt * y.toInt) (h' : x.toInt * y.toInt < 9000000000000000000) : (x * y).toInt = x.toInt * y.toInt := by
  have e0 : (x * y).toInt = (x.toInt * y.toInt).bmod (2 ^ 64) := Int64.toInt_mul x y
  rw [Int.bmod_eq_of_le (by omega) (by omega)] at e0
  exact e0
theorem addL {x y : Int64} (h : 0 ≤ x.toInt + y.toInt) (h' : x.toInt + y.toInt < 9000000000000000000) : (x + y).toInt = x.toInt + y.toInt := by
  have e0 : (x + y).toInt = (x.toInt + y.toInt).bmod (2 ^ 64) := Int64.toInt_add x y
  rw [Int.bmod_eq_of_le (by omega) (by omega)] at e0
  exact e0
theorem mixB {a : Int32} {x y : Int64} {M : Int} (h0 : 0 ≤ a.toInt) (h1 : a.toInt ≤ 20) (hM : M ≤ 512000000000) (hx0 : 0 ≤ x.toInt) (hx : x.toInt ≤ M) (hy0 : 0 ≤ y.toInt) (hy : y.toInt ≤ M) : 0 ≤ (a.toInt64 * x + (20 - a).toInt64 * y).toInt ∧ (a.toInt64 * x + (20 - a).toInt64 * y).toInt ≤ M * 20 := by
  have z : (20 : Int32).toInt = 20 := by decide
  have s1 := subI (x := 20) (y := a) (by omega) (by omega)
  have e1 : a.toInt64.toInt = a.toInt := l_ii a
  have e2 : (20 - a).toInt64.toInt = 20 - a.toInt := by rw [l_ii, s1, z]
  have p1 : 0 ≤ a.toInt * x.toInt := Int.mul_nonneg h0 hx0
  have p2 : a.toInt * x.toInt ≤ a.toInt * M := Int.mul_le_mul_of_nonneg_left hx h0
  have q1 : 0 ≤ (20 - a.toInt) * y.toInt := Int.mul_nonneg (by omega) hy0
  have q2 : (20 - a.toInt) * y.toInt ≤ (20 - a.toInt) * M := Int.mul_le_mul_of_nonneg_left hy (by omega)
  have r1 : 0 ≤ a.toInt * M := Int.mul_nonneg h0 (by omega)
  have r2 : 0 ≤ (20 - a.toInt) * M := Int.mul_nonneg (by omega) (by omega)
  have s : a.toInt * M + (20 - a.toInt) * M = M * 20 := by
    rw [← Int.add_mul, show a.toInt + (20 - a.toInt) = 20 by omega, Int.mul_comm]
  have m1 := mulL (x := a.toInt64) (y := x) (by rw [e1]; exact p1) (by rw [e1]; omega)
  have m2 := mulL (x := (20 - a).toInt64) (y := y) (by rw [e2]; exact q1) (by rw [e2]; omega)
  rw [e1] at m1
  rw [e2] at m2
  have t := addL (x := a.toInt64 * x) (y := (20 - a).toInt64 * y) (by rw [m1, m2]; omega) (by rw [m1, m2]; omega)
  rw [t, m1, m2]
  exact ⟨by omega, by omega⟩
def b1N (fs : Nat → Int32) (f : Nat → Int64) (i d b : Nat) : Int64 := (rhN fs i b 0).toInt64 * f (70 * (i + 1) + 10 * (b + 1) + (d - 1)) + (20 - rhN fs i b 0).toInt64 * f (70 * (i + 1) + 10 * (b + 1) + min 9 (d + 1))
def b1B (fs : Nat → Int32) (f : Nat → Int64) (i a d b : Nat) : Int64 := (rhB fs i a b 0).toInt64 * f (70 * (i + 1) + 10 * (b + 1) + (d - 1)) + (20 - rhB fs i a b 0).toInt64 * f (70 * (i + 1) + 10 * (b + 1) + min 9 (d + 1))
def b1 (fs : Nat → Int32) (f : Nat → Int64) (i k b : Nat) : Int64 := if k < 10 then b1N fs f i (k % 10) b else b1B fs f i (k / 10 - 1) (k % 10) b
theorem b1_cg {fs : Nat → Int32} {f g : Nat → Int64} {i k b : Nat} (h : ∀ q : Nat, 70 * (i + 1) ≤ q → f q = g q) : b1 fs f i k b = b1 fs g i k b := by
  unfold b1 b1N b1B
  rw [h (70 * (i + 1) + 10 * (b + 1) + (k % 10 - 1)) (by omega), h (70 * (i + 1) + 10 * (b + 1) + min 9 (k % 10 + 1)) (by omega)]
def okv (N i : Nat) (x : Int64) : Prop := 0 ≤ x.toInt ∧ x.toInt ≤ pwI (N - i)
def sOK (fs : Nat → Int32) (N B : Nat) (f : Nat → Int64) (i k : Nat) : Prop := (k % 10 = 0 ∨ k < 10 ∨ k / 10 ≤ B) → okv N i (f (70 * i + k)) ∧ (i < N → k % 10 ≠ 0 → ∃ b : Nat, b < B ∧ f (70 * i + k) = b1 fs f i k b)
def RI (fs : Nat → Int32) (N B j : Nat) (f : Nat → Int64) : Prop := ∀ i k : Nat, j ≤ i → i ≤ N → k < 70 → sOK fs N B f i k
def KI (fs : Nat → Int32) (N B i k : Nat) (f : Nat → Int64) : Prop := RI fs N B (i + 1) f ∧ ∀ k' : Nat, k' < k → sOK fs N B f i k'
def BI (fs : Nat → Int32) (N B i k b : Nat) (f : Nat → Int64) : Prop := KI fs N B i k f ∧ ((k % 10 = 0 ∧ f (70 * i + k) = powF (N - i)) ∨ (k % 10 ≠ 0 ∧ ((b = 0 ∧ f (70 * i + k) = 4000000000000000000) ∨ (okv N i (f (70 * i + k)) ∧ ∃ b' : Nat, b' < b ∧ f (70 * i + k) = b1 fs f i k b'))))
def FI (N j : Nat) (f : Nat → Int64) : Prop := ∀ k : Nat, k < j → 0 ≤ (f (70 * N + k)).toInt ∧ (f (70 * N + k)).toInt ≤ 1
theorem upL_ne {f : Nat → Int64} {k q : Nat} {v : Int64} (h : q ≠ k) : vp_updL f k v q = f q := if_neg h
theorem upL_eq {f : Nat → Int64} {k : Nat} {v : Int64} : vp_updL f k v k = v := if_pos rfl
theorem sOK_cg {fs : Nat → Int32} {N B : Nat} {f g : Nat → Int64} {i k : Nat} (h1 : ∀ q : Nat, 70 * (i + 1) ≤ q → f q = g q) (h2 : f (70 * i + k) = g (70 * i + k)) (h : sOK fs N B f i k) : sOK fs N B g i k := by
  intro hk
  obtain ⟨p, q⟩ := h hk
  refine ⟨by rw [← h2]; exact p, fun a c => ?_⟩
  obtain ⟨b, hb, e⟩ := q a c
  exact ⟨b, hb, by rw [← h2, ← b1_cg h1]; exact e⟩
theorem KI.put {fs : Nat → Int32} {N B i k : Nat} {f : Nat → Int64} {v : Int64} (hk : k < 70) (h : KI fs N B i k f) : KI fs N B i k (vp_updL f (70 * i + k) v) :=
  ⟨fun i' k' h1 h2 h3 => sOK_cg (fun q hq => (upL_ne (by omega)).symm) (upL_ne (by omega)).symm (h.1 i' k' h1 h2 h3), fun k' hk' => sOK_cg (fun q hq => (upL_ne (by omega)).symm) (upL_ne (by omega)).symm (h.2 k' hk')⟩
theorem BI.ini {fs : Nat → Int32} {N B i k : Nat} {f : Nat → Int64} {y : Int64} (h : KI fs N B i k f) (hk : k < 70) (hc : (k % 10 = 0 ∧ y = powF (N - i)) ∨ (k % 10 ≠ 0 ∧ y = 4000000000000000000)) : BI fs N B i k 0 (vp_updL f (70 * i + k) y) := by
  refine ⟨h.put hk, ?_⟩
  rw [upL_eq]
  rcases hc with hc | hc
  · exact Or.inl hc
  · exact Or.inr ⟨hc.1, Or.inl ⟨rfl, hc.2⟩⟩
theorem b1_ok {fs : Nat → Int32} {N B i k b : Nat} {f : Nat → Int64} (ho : OKS fs) (h : RI fs N B (i + 1) f) (hN : N ≤ 10) (hB : B ≤ 6) (hi : i < N) (hb : b < B) (hk : k < 70) : okv N i (b1 fs f i k b) := by
  have row : ∀ d : Nat, d ≤ 9 → okv N (i + 1) (f (70 * (i + 1) + 10 * (b + 1) + d)) := fun d hd => by
    have t := (h (i + 1) (10 * (b + 1) + d) (Nat.le_refl _) (by omega) (by omega) (Or.inr (Or.inr (by omega)))).1
    rw [show 70 * (i + 1) + 10 * (b + 1) + d = 70 * (i + 1) + (10 * (b + 1) + d) by omega]
    exact t
  have r1 := row (k % 10 - 1) (by omega)
  have r2 := row (min 9 (k % 10 + 1)) (by omega)
  have hp := pwI_b (n := N - (i + 1)) (by omega)
  have e : pwI (N - i) = pwI (N - (i + 1)) * 20 := by
    rw [show N - i = (N - (i + 1)) + 1 by omega]
    rfl
  unfold okv
  rw [e]
  unfold b1
  split
  · have hh := rhNb ho (i := i) (b := b) (by omega) (by omega)
    exact mixB hh.1 hh.2 hp.2 r1.1 r1.2 r2.1 r2.2
  · have hh := rhBb ho (i := i) (a := k / 10 - 1) (b := b) (by omega) (by omega) (by omega)
    exact mixB hh.1 hh.2 hp.2 r1.1 r1.2 r2.1 r2.2
theorem BI.lt {fs : Nat → Int32} {N B i k b : Nat} {f : Nat → Int64} {v : Int64} (ho : OKS fs) (hN : N ≤ 10) (hB : B ≤ 6) (hi : i < N) (hb : b < B) (hk : k < 70) (hk0 : k % 10 ≠ 0) (hv : v = b1 fs f i k b) (h : BI fs N B i k b f) : BI fs N B i k (b + 1) (vp_updL f (70 * i + k) v) := by
  refine ⟨h.1.put hk, Or.inr ⟨hk0, Or.inr ?_⟩⟩
  rw [upL_eq]
  refine ⟨by rw [hv]; exact b1_ok ho h.1.1 hN hB hi hb hk, b, by omega, ?_⟩
  rw [hv]
  exact b1_cg (fun q hq => (upL_ne (by omega)).symm)
theorem BI.ge {fs : Nat → Int32} {N B i k b : Nat} {f : Nat → Int64} {v : Int64} (ho : OKS fs) (hN : N ≤ 10) (hB : B ≤ 6) (hi : i < N) (hb : b < B) (hk : k < 70) (hk0 : k % 10 ≠ 0) (hv : v = b1 fs f i k b) (hc : (f (70 * i + k)).toInt ≤ v.toInt) (h : BI fs N B i k b f) : BI fs N B i k (b + 1) (vp_updL f (70 * i + k) (f (70 * i + k))) := by
  refine ⟨h.1.put hk, Or.inr ⟨hk0, Or.inr ?_⟩⟩
  rw [upL_eq]
  have o := b1_ok ho h.1.1 hN hB hi hb hk
  rw [← hv] at o
  have hp := pwI_b (n := N - (i + 1)) (by omega)
  have e : pwI (N - i) = pwI (N - (i + 1)) * 20 := by
    rw [show N - i = (N - (i + 1)) + 1 by omega]
    rfl
  have z : (4000000000000000000 : Int64).toInt = 4000000000000000000 := by decide
  have o2 := o.2
  rcases h.2 with c | ⟨-, c | c⟩
  · exact absurd c.1 hk0
  · rw [c.2] at hc
    exfalso
    omega
  · obtain ⟨b', h1, h2⟩ := c.2
    exact ⟨c.1, b', by omega, by rw [h2]; exact (b1_cg (fun q hq => (upL_ne (by omega)).symm))⟩
theorem BI.out {fs : Nat → Int32} {N B i k b : Nat} {f : Nat → Int64} (hN : N ≤ 10) (hi : i < N) (hB : 0 < B) (hc : b = B ∨ k % 10 = 0 ∨ (10 ≤ k ∧ B < k / 10)) (h : BI fs N B i k b f) : KI fs N B i (k + 1) f := by
  refine ⟨h.1.1, fun k' hk' => ?_⟩
  by_cases e : k' < k
  · exact h.1.2 k' e
  · have e2 : k' = k := by omega
    subst e2
    intro hv
    rcases h.2 with c | ⟨c0, c | c⟩
    · have t := pwI_t (n := N - i) (by omega)
      have hp : 0 ≤ pwI (N - i) := by
        rw [show N - i = (N - (i + 1)) + 1 by omega]
        have := pwI_b (n := N - (i + 1)) (by omega)
        show 0 ≤ pwI (N - (i + 1)) * 20
        omega
      refine ⟨⟨by rw [c.2, t]; exact hp, by rw [c.2, t]; exact Int.le_refl _⟩, fun _ h2 => absurd c.1 h2⟩
    · exfalso
      omega
    · obtain ⟨b', h1, h2⟩ := c.2
      exact ⟨c.1, fun _ _ => ⟨b', by omega, h2⟩⟩
theorem KI.out {fs : Nat → Int32} {N B i k : Nat} {f : Nat → Int64} (hk : 70 ≤ k) (h : KI fs N B i k f) : RI fs N B i f := fun i' k' h1 h2 h3 => by
  by_cases e : i' = i
  · subst e; exact h.2 k' (by omega)
  · exact h.1 i' k' (by omega) h2 h3
theorem RI.k0 {fs : Nat → Int32} {N B i : Nat} {f : Nat → Int64} (h : RI fs N B (i + 1) f) : KI fs N B i 0 f := ⟨h, fun k' hk' => absurd hk' (Nat.not_lt_zero _)⟩
theorem FI.put {N j : Nat} {f : Nat → Int64} {y : Int64} (h : FI N j f) (hy : 0 ≤ y.toInt ∧ y.toInt ≤ 1) : FI N (j + 1) (vp_updL f (70 * N + j) y) := fun k hk => by
  by_cases e : k = j
  · subst e; rw [upL_eq]; exact hy
  · rw [upL_ne (by omega)]; exact h k (by omega)
theorem FI.out {fs : Nat → Int32} {N B j : Nat} {f : Nat → Int64} (hj : 70 ≤ j) (h : FI N j f) : RI fs N B N f := fun i k h1 h2 h3 hk => by
  have e : i = N := by omega
  subst e
  have t := h k (by omega)
  refine ⟨⟨t.1, ?_⟩, fun h4 => absurd h4 (Nat.lt_irrefl _)⟩
  rw [Nat.sub_self]
  exact t.2
theorem RI.getN {fs : Nat → Int32} {N B i d : Nat} {f : Nat → Int64} (h : RI fs N B 0 f) (hi : i < N) (h1 : 1 ≤ d) (h2 : d ≤ 9) : ∃ b9 : Nat, 0 ≤ b9 ∧ b9 < B ∧ b1N fs f i d b9 = f (70 * i + d) := by
  obtain ⟨b, hb, e⟩ := (h i d (by omega) (by omega) (by omega) (Or.inr (Or.inl (by omega)))).2 hi (by omega)
  refine ⟨b, Nat.zero_le _, hb, ?_⟩
  unfold b1 at e
  rw [if_pos (by omega), Nat.mod_eq_of_lt (by omega)] at e
  exact e.symm
theorem RI.getB {fs : Nat → Int32} {N B i a d : Nat} {f : Nat → Int64} (h : RI fs N B 0 f) (hi : i < N) (ha : a < B) (hB : B ≤ 6) (h1 : 1 ≤ d) (h2 : d ≤ 9) : ∃ b9 : Nat, 0 ≤ b9 ∧ b9 < B ∧ b1B fs f i a d b9 = f (70 * i + 10 * (a + 1) + d) := by
  obtain ⟨b, hb, e⟩ := (h i (10 * (a + 1) + d) (by omega) (by omega) (by omega) (Or.inr (Or.inr (by omega)))).2 hi (by omega)
  refine ⟨b, Nat.zero_le _, hb, ?_⟩
  unfold b1 at e
  rw [if_neg (by omega), show (10 * (a + 1) + d) % 10 = d by omega, show (10 * (a + 1) + d) / 10 - 1 = a by omega] at e
  rw [show 70 * i + 10 * (a + 1) + d = 70 * i + (10 * (a + 1) + d) by omega]
  exact e.symm
theorem nx_lt {P : Nat → Prop} {j B : Nat} (h : ∃ b9 : Nat, j ≤ b9 ∧ b9 < B ∧ P b9) : j < B := by
  obtain ⟨b, h1, h2, -⟩ := h
  omega
theorem nx_step {P : Nat → Int64} {y : Int64} {j B : Nat} (h : ∃ b9 : Nat, j ≤ b9 ∧ b9 < B ∧ P b9 = y) (hn : ¬ (P j).toInt = y.toInt) : ∃ b9 : Nat, j + 1 ≤ b9 ∧ b9 < B ∧ P b9 = y := by
  obtain ⟨b, h1, h2, h3⟩ := h
  refine ⟨b, ?_, h2, h3⟩
  by_cases e : b = j
  · subst e; exact absurd (congrArg Int64.toInt h3) hn
  · omega
set_option maxHeartbeats 1000000 in
set_option maxRecDepth 100000 in
theorem c_X11_bestAtN (l : Launch) (dC : Nat → ClassId) (dI : Nat → Nat → Nat) (G : Nat → ClassId) (sz : Nat) (i d : Nat) (hi10 : i ≤ 10) (hdd : d ≤ 9) : Met l yX11_bestAt (Cond.code yX11_bestAt cX11_bestAt 3 (some .int) :: GT) ({ frames := 0, cells := 0, slots := 0, locals := 0 } : Room) (PcR [.int (nI i), .int (-4), .int (nI d)] dC dI G [] sz) (va_Qi (fun (r : Int32) (u : Unit) => match u with | _ => (r = nI (70 * i + d)) ∧ True) (fun _ _ => True) (fun q : Nat => sz ≤ q)) 0 0 (fun q : Nat => sz ≤ q) := by
  refine Met.ofW (cc := cX11_bestAt) (maxL := 3) (ret := (some .int)) (by decide) rfl ?_
  intro p e s m args below meth c s₁ Bd hml hv
  obtain ⟨rfl, hsz, hP, hK⟩ := hv
  have hx := Bd.exec
  have hb := Bd.bytes
  have hr := Bd.returns
  have hg : ∀ w ∈ GT, w.before ([.int (nI i), .int (-4), .int (nI d)] : List Value).toArray s = true := fun w h => atoms_spec (ws := Cond.code yX11_bestAt cX11_bestAt 3 (some .int) :: GT) Bd.pre w (List.mem_cons_of_mem _ h)
  have hown : s.vm.findClass RX11 = some m.cls := findClass_of_methodNamed Bd.named
  have hlocks := Bd.notSynchronized
  subst hsz
  have hA : ∀ q : Nat, s.heap.size ≤ q → (fun q : Nat => s.heap.size ≤ q) q := fun _ h => h
  have hS : va_S (fun q : Nat => s.heap.size ≤ q) s.heap s.heap [] := va_S.rf
  have hl := lv_entry ([.int (nI i), .int (-4), .int (nI d)]) (n := 3) (Nat.le_of_ble_eq_true rfl)
  rw [lg_entry_eq]
  generalize (lg_sl ([.int (nI i), .int (-4), .int (nI d)]) ++ List.replicate (3 - (lg_sl ([.int (nI i), .int (-4), .int (nI d)])).length) Slot.unset).toArray = ls at hl ⊢
  have hl : lv_has ls 3 [(0, .int (nI i)), (1, .int (-4)), (2, .int (nI d))] := hl
  refine lv_bipush (v := 70) hx hb dX11_bestAt_0 (by decide) ?_
  refine lv_iload_n hx hb dX11_bestAt_2 rfl (lv_at hl 0 rfl) ?_
  refine lv_imul hx hb dX11_bestAt_3 ?_
  refine lv_cg (y := nI (70 * i)) (by rw [show (70 : Int32) = nI 70 from rfl]; exact pk_mul _ _) ?_
  refine lv_bipush (v := 10) hx hb dX11_bestAt_4 (by decide) ?_
  refine lv_iload_n hx hb dX11_bestAt_6 rfl (lv_at hl 1 rfl) ?_
  refine lv_bipush (v := (-4)) hx hb dX11_bestAt_7 (by decide) ?_
  refine lv_icmp_ne (tgt := 16) hx hb dX11_bestAt_9 (by decide) (fun c1 => ?_) (fun c1 => ?_)
  · skip
    exact absurd c1 (by decide)
  · skip
    refine lv_iconst (v := 0) hx hb dX11_bestAt_12 (by decide) ?_
    refine lv_goto (tgt := 19) hx hb dX11_bestAt_13 (by decide) ?_
    refine lv_imul hx hb dX11_bestAt_19 ?_
    refine lv_cg (y := 0) (by decide) ?_
    refine lv_iadd hx hb dX11_bestAt_20 ?_
    refine lv_cg (y := nI (70 * i)) (by rw [show (0 : Int32) = nI 0 from rfl, nI_add, Nat.add_zero]) ?_
    refine lv_iload_n hx hb dX11_bestAt_21 rfl (lv_at hl 2 rfl) ?_
    refine lv_iadd hx hb dX11_bestAt_22 ?_
    refine lv_cg (y := nI ((70 * i) + d)) (by exact nI_add _ _) ?_
    have hpost : (nI ((70 * i) + d) : Int32) = nI (70 * i + d) := by
      have t_c1 := eqI c1
      have : ((-4) : Int32).toInt = -4 := (by decide)
      have t_n0 : (nI i).toInt = (i : Int) := nI_toInt (by omega)
      have t_n1 : (nI d).toInt = (d : Int) := nI_toInt (by omega)
      have t_n0 : (nI i).toInt = (i : Int) := nI_toInt (by omega)
      have t_n1 : (nI d).toInt = (d : Int) := nI_toInt (by omega)
      first | rfl | ((repeat' split) <;> first | rfl | omega)
    refine W.widen (k := 0) (n := 0) (by omega) (by omega) ?_
    exact W.iret (v := nI ((70 * i) + d)) hx hb hr (fun t ht hW => ⟨⟨nI ((70 * i) + d), (), rfl, ⟨hpost, trivial⟩, trivial⟩, hS.F ht⟩) hS.2.2 dX11_bestAt_23

set_option maxHeartbeats 1000000 in
set_option maxRecDepth 100000 in
theorem c_X11_bestAtB (l : Launch) (dC : Nat → ClassId) (dI : Nat → Nat → Nat) (G : Nat → ClassId) (sz : Nat) (i a d : Nat) (hi10 : i ≤ 10) (hka : a < 6) (hdd : d ≤ 9) : Met l yX11_bestAt (Cond.code yX11_bestAt cX11_bestAt 3 (some .int) :: GT) ({ frames := 0, cells := 0, slots := 0, locals := 0 } : Room) (PcR [.int (nI i), .int (nI a), .int (nI d)] dC dI G [] sz) (va_Qi (fun (r : Int32) (u : Unit) => match u with | _ => (r = nI (70 * i + 10 * (a + 1) + d)) ∧ True) (fun _ _ => True) (fun q : Nat => sz ≤ q)) 0 0 (fun q : Nat => sz ≤ q) := by
  refine Met.ofW (cc := cX11_bestAt) (maxL := 3) (ret := (some .int)) (by decide) rfl ?_
  intro p e s m args below meth c s₁ Bd hml hv
  obtain ⟨rfl, hsz, hP, hK⟩ := hv
  have hx := Bd.exec
  have hb := Bd.bytes
  have hr := Bd.returns
  have hg : ∀ w ∈ GT, w.before ([.int (nI i), .int (nI a), .int (nI d)] : List Value).toArray s = true := fun w h => atoms_spec (ws := Cond.code yX11_bestAt cX11_bestAt 3 (some .int) :: GT) Bd.pre w (List.mem_cons_of_mem _ h)
  have hown : s.vm.findClass RX11 = some m.cls := findClass_of_methodNamed Bd.named
  have hlocks := Bd.notSynchronized
  subst hsz
  have hA : ∀ q : Nat, s.heap.size ≤ q → (fun q : Nat => s.heap.size ≤ q) q := fun _ h => h
  have hS : va_S (fun q : Nat => s.heap.size ≤ q) s.heap s.heap [] := va_S.rf
  have hl := lv_entry ([.int (nI i), .int (nI a), .int (nI d)]) (n := 3) (Nat.le_of_ble_eq_true rfl)
  rw [lg_entry_eq]
  generalize (lg_sl ([.int (nI i), .int (nI a), .int (nI d)]) ++ List.replicate (3 - (lg_sl ([.int (nI i), .int (nI a), .int (nI d)])).length) Slot.unset).toArray = ls at hl ⊢
  have hl : lv_has ls 3 [(0, .int (nI i)), (1, .int (nI a)), (2, .int (nI d))] := hl
  refine lv_bipush (v := 70) hx hb dX11_bestAt_0 (by decide) ?_
  refine lv_iload_n hx hb dX11_bestAt_2 rfl (lv_at hl 0 rfl) ?_
  refine lv_imul hx hb dX11_bestAt_3 ?_
  refine lv_cg (y := nI (70 * i)) (by rw [show (70 : Int32) = nI 70 from rfl]; exact pk_mul _ _) ?_
  refine lv_bipush (v := 10) hx hb dX11_bestAt_4 (by decide) ?_
  refine lv_iload_n hx hb dX11_bestAt_6 rfl (lv_at hl 1 rfl) ?_
  refine lv_bipush (v := (-4)) hx hb dX11_bestAt_7 (by decide) ?_
  refine lv_icmp_ne (tgt := 16) hx hb dX11_bestAt_9 (by decide) (fun c1 => ?_) (fun c1 => ?_)
  · skip
    refine lv_iload_n hx hb dX11_bestAt_16 rfl (lv_at hl 1 rfl) ?_
    refine lv_iconst (v := 1) hx hb dX11_bestAt_17 (by decide) ?_
    refine lv_iadd hx hb dX11_bestAt_18 ?_
    refine lv_cg (y := nI (a + 1)) (by rw [show (1 : Int32) = nI 1 from rfl]; exact nI_add _ _) ?_
    refine lv_imul hx hb dX11_bestAt_19 ?_
    refine lv_cg (y := nI (10 * (a + 1))) (by rw [show (10 : Int32) = nI 10 from rfl]; exact pk_mul _ _) ?_
    refine lv_iadd hx hb dX11_bestAt_20 ?_
    refine lv_cg (y := nI ((70 * i) + (10 * (a + 1)))) (by exact nI_add _ _) ?_
    refine lv_iload_n hx hb dX11_bestAt_21 rfl (lv_at hl 2 rfl) ?_
    refine lv_iadd hx hb dX11_bestAt_22 ?_
    refine lv_cg (y := nI (((70 * i) + (10 * (a + 1))) + d)) (by exact nI_add _ _) ?_
    have hpost : (nI (((70 * i) + (10 * (a + 1))) + d) : Int32) = nI (70 * i + 10 * (a + 1) + d) := by
      have t_c1 := neI c1
      have : ((-4) : Int32).toInt = -4 := (by decide)
      have t_n0 : (nI i).toInt = (i : Int) := nI_toInt (by omega)
      have t_n1 : (nI a).toInt = (a : Int) := nI_toInt (by omega)
      have t_n2 : (nI d).toInt = (d : Int) := nI_toInt (by omega)
      have t_n0 : (nI i).toInt = (i : Int) := nI_toInt (by omega)
      have t_n1 : (nI a).toInt = (a : Int) := nI_toInt (by omega)
      have t_n2 : (nI d).toInt = (d : Int) := nI_toInt (by omega)
      first | rfl | ((repeat' split) <;> first | rfl | omega)
    refine W.widen (k := 0) (n := 0) (by omega) (by omega) ?_
    exact W.iret (v := nI (((70 * i) + (10 * (a + 1))) + d)) hx hb hr (fun t ht hW => ⟨⟨nI (((70 * i) + (10 * (a + 1))) + d), (), rfl, ⟨hpost, trivial⟩, trivial⟩, hS.F ht⟩) hS.2.2 dX11_bestAt_23
  · skip
    have t_c1 := eqI c1
    have : ((-4) : Int32).toInt = -4 := (by decide)
    have t_n0 : (nI i).toInt = (i : Int) := nI_toInt (by omega)
    have t_n1 : (nI a).toInt = (a : Int) := nI_toInt (by omega)
    have t_n2 : (nI d).toInt = (d : Int) := nI_toInt (by omega)
    exfalso; omega

set_option maxHeartbeats 1000000 in
set_option maxRecDepth 100000 in
theorem c_X11_byOneN (l : Launch) (dC : Nat → ClassId) (dI : Nat → Nat → Nat) (G : Nat → ClassId) (sz : Nat) (h0 i d b st N B rp tp T cu lt od th be ln S ma M ah bh ik la lg ce : Nat) (vrs vrb vhs vca vxs vxb vfa vbr vba vsp vhe vtk vva vto : Int32) (fst : Nat → Int32) (fbe : Nat → Int64) (hN : N ≤ 10) (hB : B ≤ 6) (hT : T ≤ 320) (hS0 : S ≤ 8) (hM : M ≤ 6) (hi : i < 10) (hkb : b < 6) (hd1 : 1 ≤ d ∧ d ≤ 9) : Met l yX11_byOne (Cond.code yX11_byOne cX11_byOne 6 (some .long) :: GT) ({ frames := 2, cells := 0, slots := 0, locals := 50 } : Room) (PcR [.ref h0, .int (nI i), .int (-4), .int (nI d), .int (nI b)] dC dI G [(h0, .inr (11, [.ref st, .int (nI N), .int (nI B), .ref rp, .int vrs, .int vrb, .int vhs, .int vca, .int vxs, .int vxb, .ref tp, .int (nI T), .int vfa, .int vbr, .int vba, .int vsp, .int vhe, .int vtk, .int vva, .ref cu, .ref lt, .ref od, .ref th, .ref be, .ref ln, .int (nI S), .ref ma, .int (nI M), .ref ah, .ref bh, .ref ik, .ref la, .ref lg, .ref ce, .int vto])), (st, .inl (G 0, 196, .inl fst)), (be, .inl (G 1, 770, .inr (.inl fbe)))] sz) (va_Ql (fun (r : Int64) (u : Unit) => match u with | _ => (r = b1N fst fbe i d b) ∧ True) (fun _ _ => True) (fun q : Nat => sz ≤ q)) 0 0 (fun q : Nat => sz ≤ q) := by
  refine Met.ofW (cc := cX11_byOne) (maxL := 6) (ret := (some .long)) (by decide) rfl ?_
  intro p e s m args below meth c s₁ Bd hml hv
  obtain ⟨rfl, hsz, hP, hK⟩ := hv
  have hx := Bd.exec
  have hb := Bd.bytes
  have hr := Bd.returns
  have hg : ∀ w ∈ GT, w.before ([.ref h0, .int (nI i), .int (-4), .int (nI d), .int (nI b)] : List Value).toArray s = true := fun w h => atoms_spec (ws := Cond.code yX11_byOne cX11_byOne 6 (some .long) :: GT) Bd.pre w (List.mem_cons_of_mem _ h)
  have hown : s.vm.findClass RX11 = some m.cls := findClass_of_methodNamed Bd.named
  have hlocks := Bd.notSynchronized
  subst hsz
  have hA : ∀ q : Nat, s.heap.size ≤ q → (fun q : Nat => s.heap.size ≤ q) q := fun _ h => h
  have hS : va_S (fun q : Nat => s.heap.size ≤ q) s.heap s.heap [] := va_S.rf
  have hl := lv_entry ([.ref h0, .int (nI i), .int (-4), .int (nI d), .int (nI b)]) (n := 6) (Nat.le_of_ble_eq_true rfl)
  rw [lg_entry_eq]
  generalize (lg_sl ([.ref h0, .int (nI i), .int (-4), .int (nI d), .int (nI b)]) ++ List.replicate (6 - (lg_sl ([.ref h0, .int (nI i), .int (-4), .int (nI d), .int (nI b)])).length) Slot.unset).toArray = ls at hl ⊢
  have hl : lv_has ls 6 [(0, .ref h0), (1, .int (nI i)), (2, .int (-4)), (3, .int (nI d)), (4, .int (nI b))] := hl
  refine lv_aload_n hx hb dX11_byOne_0 rfl (lv_at hl 0 rfl) ?_
  refine lv_iload_n hx hb dX11_byOne_1 rfl (lv_at hl 1 rfl) ?_
  refine lv_iload_n hx hb dX11_byOne_2 rfl (lv_at hl 2 rfl) ?_
  refine lv_iload hx hb dX11_byOne_3 (lv_at hl 4 rfl) ?_
  refine lv_iconst (v := 0) hx hb dX11_byOne_5 (by decide) ?_
  have hPc := hP.sub (ws' := [(h0, .inr (11, [.ref st, .int (nI N), .int (nI B), .ref rp, .int vrs, .int vrb, .int vhs, .int vca, .int vxs, .int vxb, .ref tp, .int (nI T), .int vfa, .int vbr, .int vba, .int vsp, .int vhe, .int vtk, .int vva, .ref cu, .ref lt, .ref od, .ref th, .ref be, .ref ln, .int (nI S), .ref ma, .int (nI M), .ref ah, .ref bh, .ref ik, .ref la, .ref lg, .ref ce, .int vto])), (st, .inl (G 0, 196, .inl fst))]) [0, 1] rfl
  refine va_calli (va_runV (As := [.int (nI i), .int (-4), .int (nI b), .int 0]) (rest := []) ⟨hx, hb, hml, hown, hg⟩ (c_X11_harmOfN l dC dI G _ h0 i b st N B rp tp T cu lt od th be ln S ma M ah bh ik la lg ce 0 vrs vrb vhs vca vxs vxb vfa vbr vba vsp vhe vtk vva vto fst (by have t_n0 : (nI i).toInt = (i : Int) := nI_toInt (by omega); have t_n1 : (nI d).toInt = (d : Int) := nI_toInt (by omega); have t_n2 : (nI b).toInt = (b : Int) := nI_toInt (by omega); have t_n3 : (nI N).toInt = (N : Int) := nI_toInt (by omega); have t_n4 : (nI B).toInt = (B : Int) := nI_toInt (by omega); have t_n5 : (nI T).toInt = (T : Int) := nI_toInt (by omega); have t_n6 : (nI S).toInt = (S : Int) := nI_toInt (by omega); have t_n7 : (nI M).toInt = (M : Int) := nI_toInt (by omega); have : ((-4) : Int32).toInt = -4 := (by decide); have : (0 : Int32).toInt = 0 := (by decide); omega) (by have t_n0 : (nI i).toInt = (i : Int) := nI_toInt (by omega); have t_n1 : (nI d).toInt = (d : Int) := nI_toInt (by omega); have t_n2 : (nI b).toInt = (b : Int) := nI_toInt (by omega); have t_n3 : (nI N).toInt = (N : Int) := nI_toInt (by omega); have t_n4 : (nI B).toInt = (B : Int) := nI_toInt (by omega); have t_n5 : (nI T).toInt = (T : Int) := nI_toInt (by omega); have t_n6 : (nI S).toInt = (S : Int) := nI_toInt (by omega); have t_n7 : (nI M).toInt = (M : Int) := nI_toInt (by omega); have : ((-4) : Int32).toInt = -4 := (by decide); have : (0 : Int32).toInt = 0 := (by decide); omega) (by have t_n0 : (nI i).toInt = (i : Int) := nI_toInt (by omega); have t_n1 : (nI d).toInt = (d : Int) := nI_toInt (by omega); have t_n2 : (nI b).toInt = (b : Int) := nI_toInt (by omega); have t_n3 : (nI N).toInt = (N : Int) := nI_toInt (by omega); have t_n4 : (nI B).toInt = (B : Int) := nI_toInt (by omega); have t_n5 : (nI T).toInt = (T : Int) := nI_toInt (by omega); have t_n6 : (nI S).toInt = (S : Int) := nI_toInt (by omega); have t_n7 : (nI M).toInt = (M : Int) := nI_toInt (by omega); have : ((-4) : Int32).toInt = -4 := (by decide); have : (0 : Int32).toInt = 0 := (by decide); omega) (by have t_n0 : (nI i).toInt = (i : Int) := nI_toInt (by omega); have t_n1 : (nI d).toInt = (d : Int) := nI_toInt (by omega); have t_n2 : (nI b).toInt = (b : Int) := nI_toInt (by omega); have t_n3 : (nI N).toInt = (N : Int) := nI_toInt (by omega); have t_n4 : (nI B).toInt = (B : Int) := nI_toInt (by omega); have t_n5 : (nI T).toInt = (T : Int) := nI_toInt (by omega); have t_n6 : (nI S).toInt = (S : Int) := nI_toInt (by omega); have t_n7 : (nI M).toInt = (M : Int) := nI_toInt (by omega); have : ((-4) : Int32).toInt = -4 := (by decide); have : (0 : Int32).toInt = 0 := (by decide); omega) (by have t_n0 : (nI i).toInt = (i : Int) := nI_toInt (by omega); have t_n1 : (nI d).toInt = (d : Int) := nI_toInt (by omega); have t_n2 : (nI b).toInt = (b : Int) := nI_toInt (by omega); have t_n3 : (nI N).toInt = (N : Int) := nI_toInt (by omega); have t_n4 : (nI B).toInt = (B : Int) := nI_toInt (by omega); have t_n5 : (nI T).toInt = (T : Int) := nI_toInt (by omega); have t_n6 : (nI S).toInt = (S : Int) := nI_toInt (by omega); have t_n7 : (nI M).toInt = (M : Int) := nI_toInt (by omega); have : ((-4) : Int32).toInt = -4 := (by decide); have : (0 : Int32).toInt = 0 := (by decide); omega) (by have t_n0 : (nI i).toInt = (i : Int) := nI_toInt (by omega); have t_n1 : (nI d).toInt = (d : Int) := nI_toInt (by omega); have t_n2 : (nI b).toInt = (b : Int) := nI_toInt (by omega); have t_n3 : (nI N).toInt = (N : Int) := nI_toInt (by omega); have t_n4 : (nI B).toInt = (B : Int) := nI_toInt (by omega); have t_n5 : (nI T).toInt = (T : Int) := nI_toInt (by omega); have t_n6 : (nI S).toInt = (S : Int) := nI_toInt (by omega); have t_n7 : (nI M).toInt = (M : Int) := nI_toInt (by omega); have : ((-4) : Int32).toInt = -4 := (by decide); have : (0 : Int32).toInt = 0 := (by decide); omega) (by have t_n0 : (nI i).toInt = (i : Int) := nI_toInt (by omega); have t_n1 : (nI d).toInt = (d : Int) := nI_toInt (by omega); have t_n2 : (nI b).toInt = (b : Int) := nI_toInt (by omega); have t_n3 : (nI N).toInt = (N : Int) := nI_toInt (by omega); have t_n4 : (nI B).toInt = (B : Int) := nI_toInt (by omega); have t_n5 : (nI T).toInt = (T : Int) := nI_toInt (by omega); have t_n6 : (nI S).toInt = (S : Int) := nI_toInt (by omega); have t_n7 : (nI M).toInt = (M : Int) := nI_toInt (by omega); have : ((-4) : Int32).toInt = -4 := (by decide); have : (0 : Int32).toInt = 0 := (by decide); omega)) (kwV hg mfX11_harmOf wt_1106 ⟨Nat.le_of_ble_eq_true rfl, Nat.le_of_ble_eq_true rfl⟩) (preVR hK hPc (ci := 11) rfl rfl) rfl rfl hl.1 rfl (lv_room (Nat.le_of_ble_eq_true rfl)) dX11_byOne_6 ⟨Nat.le_of_ble_eq_true rfl, Nat.le_of_ble_eq_true rfl⟩) hS (fun q h1 h2 => absurd h2 (Nat.not_le.mpr h1)) (fun q h => hA q (Nat.le_trans hS.1 h)) (fun r1 ur1 t H1 locs ht hvm w2 hB hz1 hk1 hS => ?_)
  have hP := keepR hP hk1
  obtain ⟨w2, w2x⟩ := w2
  subst w2
  refine lv_istore (lv' := [(5, .int (rhN fst i b 0)), (0, .ref h0), (1, .int (nI i)), (2, .int (-4)), (3, .int (nI d)), (4, .int (nI b))]) hx hb dX11_byOne_9 hl (by decide) rfl (fun ls hl => ?_)
  refine lv_iload hx hb dX11_byOne_11 (lv_at hl 0 rfl) ?_
  refine lv_i2l (v := (rhN fst i b 0).toInt64) hx hb dX11_byOne_13 rfl ?_
  refine lv_aload_n hx hb dX11_byOne_14 rfl (lv_at hl 1 rfl) ?_
  refine va_get (D := (dC, dI)) (ci := 11) (v := .ref be) (C := RX11) (T := TX11) (N := 35) hx hb hg inG11 hown hK.1 hP 0 rfl rfl 23 (by decide) (hg _ wt_901) (fun _ h9 => h9) rfl dX11_byOne_15 ?_
  refine lv_iload_n hx hb dX11_byOne_18 rfl (lv_at hl 2 rfl) ?_
  refine lv_iconst (v := 1) hx hb dX11_byOne_19 (by decide) ?_
  refine lv_iadd hx hb dX11_byOne_20 ?_
  refine lv_cg (y := nI (i + 1)) (by rw [show (1 : Int32) = nI 1 from rfl]; exact nI_add _ _) ?_
  refine lv_iload hx hb dX11_byOne_21 (lv_at hl 5 rfl) ?_
  refine lv_iload_n hx hb dX11_byOne_23 rfl (lv_at hl 4 rfl) ?_
  refine lv_iconst (v := 1) hx hb dX11_byOne_24 (by decide) ?_
  refine lv_isub hx hb dX11_byOne_25 ?_
  refine lv_cg (y := nI (d - 1)) (by rw [show (1 : Int32) = nI 1 from rfl]; exact pk_sub (by have t_n0 : (nI i).toInt = (i : Int) := nI_toInt (by omega); have t_n1 : (nI d).toInt = (d : Int) := nI_toInt (by omega); have t_n2 : (nI b).toInt = (b : Int) := nI_toInt (by omega); have t_n3 : (nI N).toInt = (N : Int) := nI_toInt (by omega); have t_n4 : (nI B).toInt = (B : Int) := nI_toInt (by omega); have t_n5 : (nI T).toInt = (T : Int) := nI_toInt (by omega); have t_n6 : (nI S).toInt = (S : Int) := nI_toInt (by omega); have t_n7 : (nI M).toInt = (M : Int) := nI_toInt (by omega); omega)) ?_
  have hPc := hP.sub (ws' := []) [] rfl
  refine va_calli (va_runS (As := [.int (nI (i + 1)), .int (nI b), .int (nI (d - 1))]) (rest := [.ref be, .long ((rhN fst i b 0).toInt64)]) ⟨hx, hb, hml, hown, hg⟩ (c_X11_bestAtB l dC dI G _ (i + 1) b (d - 1) (by have t_n0 : (nI i).toInt = (i : Int) := nI_toInt (by omega); have t_n1 : (nI d).toInt = (d : Int) := nI_toInt (by omega); have t_n2 : (nI b).toInt = (b : Int) := nI_toInt (by omega); have t_n3 : (nI N).toInt = (N : Int) := nI_toInt (by omega); have t_n4 : (nI B).toInt = (B : Int) := nI_toInt (by omega); have t_n5 : (nI T).toInt = (T : Int) := nI_toInt (by omega); have t_n6 : (nI S).toInt = (S : Int) := nI_toInt (by omega); have t_n7 : (nI M).toInt = (M : Int) := nI_toInt (by omega); omega) (by have t_n0 : (nI i).toInt = (i : Int) := nI_toInt (by omega); have t_n1 : (nI d).toInt = (d : Int) := nI_toInt (by omega); have t_n2 : (nI b).toInt = (b : Int) := nI_toInt (by omega); have t_n3 : (nI N).toInt = (N : Int) := nI_toInt (by omega); have t_n4 : (nI B).toInt = (B : Int) := nI_toInt (by omega); have t_n5 : (nI T).toInt = (T : Int) := nI_toInt (by omega); have t_n6 : (nI S).toInt = (S : Int) := nI_toInt (by omega); have t_n7 : (nI M).toInt = (M : Int) := nI_toInt (by omega); omega) (by have t_n0 : (nI i).toInt = (i : Int) := nI_toInt (by omega); have t_n1 : (nI d).toInt = (d : Int) := nI_toInt (by omega); have t_n2 : (nI b).toInt = (b : Int) := nI_toInt (by omega); have t_n3 : (nI N).toInt = (N : Int) := nI_toInt (by omega); have t_n4 : (nI B).toInt = (B : Int) := nI_toInt (by omega); have t_n5 : (nI T).toInt = (T : Int) := nI_toInt (by omega); have t_n6 : (nI S).toInt = (S : Int) := nI_toInt (by omega); have t_n7 : (nI M).toInt = (M : Int) := nI_toInt (by omega); omega)) (kwS hg mfX11_bestAt wt_1159 ⟨Nat.le_of_ble_eq_true rfl, Nat.le_of_ble_eq_true rfl⟩) (preSR hK hPc) rfl rfl hl.1 rfl (lv_room (Nat.le_of_ble_eq_true rfl)) dX11_byOne_26 ⟨Nat.le_of_ble_eq_true rfl, Nat.le_of_ble_eq_true rfl⟩) hS (fun q h1 h2 => absurd h2 (Nat.not_le.mpr h1)) (fun q h => hA q (Nat.le_trans hS.1 h)) (fun r3 ur3 t H1 locs ht hvm w4 hB hz1 hk1 hS => ?_)
  have hP := keepR hP hk1
  obtain ⟨w4, w4x⟩ := w4
  subst w4
  refine va_lald hx hb hK.1 hP 2 1 rfl rfl (vp_in_nI (by have t_n0 : (nI i).toInt = (i : Int) := nI_toInt (by omega); have t_n1 : (nI d).toInt = (d : Int) := nI_toInt (by omega); have t_n2 : (nI b).toInt = (b : Int) := nI_toInt (by omega); have t_n3 : (nI N).toInt = (N : Int) := nI_toInt (by omega); have t_n4 : (nI B).toInt = (B : Int) := nI_toInt (by omega); have t_n5 : (nI T).toInt = (T : Int) := nI_toInt (by omega); have t_n6 : (nI S).toInt = (S : Int) := nI_toInt (by omega); have t_n7 : (nI M).toInt = (M : Int) := nI_toInt (by omega); omega) (by decide)) dX11_byOne_29 ?_
  refine lv_cgl (y := fbe (70 * (i + 1) + 10 * (b + 1) + (d - 1))) (by rw [nI_clamp (by omega)]) ?_
  refine lv_lmul hx hb dX11_byOne_30 ?_
  refine lv_bipush (v := 20) hx hb dX11_byOne_31 (by decide) ?_
  refine lv_iload hx hb dX11_byOne_33 (lv_at hl 0 rfl) ?_
  refine lv_isub hx hb dX11_byOne_35 ?_
  refine lv_i2l (v := (20 - (rhN fst i b 0)).toInt64) hx hb dX11_byOne_36 rfl ?_
  refine lv_aload_n hx hb dX11_byOne_37 rfl (lv_at hl 1 rfl) ?_
  refine va_get (D := (dC, dI)) (ci := 11) (v := .ref be) (C := RX11) (T := TX11) (N := 35) hx hb hg inG11 hown hK.1 hP 0 rfl rfl 23 (by decide) (hg _ wt_901) (fun _ h9 => h9) rfl dX11_byOne_38 ?_
  refine lv_iload_n hx hb dX11_byOne_41 rfl (lv_at hl 2 rfl) ?_
  refine lv_iconst (v := 1) hx hb dX11_byOne_42 (by decide) ?_
  refine lv_iadd hx hb dX11_byOne_43 ?_
  refine lv_cg (y := nI (i + 1)) (by rw [show (1 : Int32) = nI 1 from rfl]; exact nI_add _ _) ?_
  refine lv_iload hx hb dX11_byOne_44 (lv_at hl 5 rfl) ?_
  refine lv_iload_n hx hb dX11_byOne_46 rfl (lv_at hl 4 rfl) ?_
  refine lv_iconst (v := 1) hx hb dX11_byOne_47 (by decide) ?_
  have hPc := hP.sub (ws' := []) [] rfl
  refine va_calli (va_runS (As := [.int (nI d), .int 1]) (rest := [.int (nI b), .int (nI (i + 1)), .ref be, .long ((20 - (rhN fst i b 0)).toInt64), .long (((rhN fst i b 0).toInt64) * (fbe (70 * (i + 1) + 10 * (b + 1) + (d - 1))))]) ⟨hx, hb, hml, hown, hg⟩ (c_X11_deeper l dC dI G _ d 1 (by have t_n0 : (nI i).toInt = (i : Int) := nI_toInt (by omega); have t_n1 : (nI d).toInt = (d : Int) := nI_toInt (by omega); have t_n2 : (nI b).toInt = (b : Int) := nI_toInt (by omega); have t_n3 : (nI N).toInt = (N : Int) := nI_toInt (by omega); have t_n4 : (nI B).toInt = (B : Int) := nI_toInt (by omega); have t_n5 : (nI T).toInt = (T : Int) := nI_toInt (by omega); have t_n6 : (nI S).toInt = (S : Int) := nI_toInt (by omega); have t_n7 : (nI M).toInt = (M : Int) := nI_toInt (by omega); have : (1 : Int32).toInt = 1 := (by decide); omega) (by have t_n0 : (nI i).toInt = (i : Int) := nI_toInt (by omega); have t_n1 : (nI d).toInt = (d : Int) := nI_toInt (by omega); have t_n2 : (nI b).toInt = (b : Int) := nI_toInt (by omega); have t_n3 : (nI N).toInt = (N : Int) := nI_toInt (by omega); have t_n4 : (nI B).toInt = (B : Int) := nI_toInt (by omega); have t_n5 : (nI T).toInt = (T : Int) := nI_toInt (by omega); have t_n6 : (nI S).toInt = (S : Int) := nI_toInt (by omega); have t_n7 : (nI M).toInt = (M : Int) := nI_toInt (by omega); have : (1 : Int32).toInt = 1 := (by decide); omega)) (kwS hg mfX11_deeper wt_1128 ⟨Nat.le_of_ble_eq_true rfl, Nat.le_of_ble_eq_true rfl⟩) (preSR hK hPc) rfl rfl hl.1 rfl (lv_room (Nat.le_of_ble_eq_true rfl)) dX11_byOne_48 ⟨Nat.le_of_ble_eq_true rfl, Nat.le_of_ble_eq_true rfl⟩) hS (fun q h1 h2 => absurd h2 (Nat.not_le.mpr h1)) (fun q h => hA q (Nat.le_trans hS.1 h)) (fun r5 ur5 t H1 locs ht hvm w6 hB hz1 hk1 hS => ?_)
  have hP := keepR hP hk1
  obtain ⟨w6, w6x⟩ := w6
  have hs7 : d ≤ (min 9 (d + 1)) ∧ (min 9 (d + 1)) ≤ 9 := (by omega)
  subst w6
  have hPc := hP.sub (ws' := []) [] rfl
  refine va_calli (va_runS (As := [.int (nI (i + 1)), .int (nI b), .int (nI (min 9 (d + 1)))]) (rest := [.ref be, .long ((20 - (rhN fst i b 0)).toInt64), .long (((rhN fst i b 0).toInt64) * (fbe (70 * (i + 1) + 10 * (b + 1) + (d - 1))))]) ⟨hx, hb, hml, hown, hg⟩ (c_X11_bestAtB l dC dI G _ (i + 1) b (min 9 (d + 1)) (by have t_hs7 := hs7; have t_n0 : (nI i).toInt = (i : Int) := nI_toInt (by omega); have t_n1 : (nI d).toInt = (d : Int) := nI_toInt (by omega); have t_n2 : (nI b).toInt = (b : Int) := nI_toInt (by omega); have t_n3 : (nI N).toInt = (N : Int) := nI_toInt (by omega); have t_n4 : (nI B).toInt = (B : Int) := nI_toInt (by omega); have t_n5 : (nI T).toInt = (T : Int) := nI_toInt (by omega); have t_n6 : (nI S).toInt = (S : Int) := nI_toInt (by omega); have t_n7 : (nI M).toInt = (M : Int) := nI_toInt (by omega); omega) (by have t_hs7 := hs7; have t_n0 : (nI i).toInt = (i : Int) := nI_toInt (by omega); have t_n1 : (nI d).toInt = (d : Int) := nI_toInt (by omega); have t_n2 : (nI b).toInt = (b : Int) := nI_toInt (by omega); have t_n3 : (nI N).toInt = (N : Int) := nI_toInt (by omega); have t_n4 : (nI B).toInt = (B : Int) := nI_toInt (by omega); have t_n5 : (nI T).toInt = (T : Int) := nI_toInt (by omega); have t_n6 : (nI S).toInt = (S : Int) := nI_toInt (by omega); have t_n7 : (nI M).toInt = (M : Int) := nI_toInt (by omega); omega) (by have t_hs7 := hs7; have t_n0 : (nI i).toInt = (i : Int) := nI_toInt (by omega); have t_n1 : (nI d).toInt = (d : Int) := nI_toInt (by omega); have t_n2 : (nI b).toInt = (b : Int) := nI_toInt (by omega); have t_n3 : (nI N).toInt = (N : Int) := nI_toInt (by omega); have t_n4 : (nI B).toInt = (B : Int) := nI_toInt (by omega); have t_n5 : (nI T).toInt = (T : Int) := nI_toInt (by omega); have t_n6 : (nI S).toInt = (S : Int) := nI_toInt (by omega); have t_n7 : (nI M).toInt = (M : Int) := nI_toInt (by omega); omega)) (kwS hg mfX11_bestAt wt_1159 ⟨Nat.le_of_ble_eq_true rfl, Nat.le_of_ble_eq_true rfl⟩) (preSR hK hPc) rfl rfl hl.1 rfl (lv_room (Nat.le_of_ble_eq_true rfl)) dX11_byOne_51 ⟨Nat.le_of_ble_eq_true rfl, Nat.le_of_ble_eq_true rfl⟩) hS (fun q h1 h2 => absurd h2 (Nat.not_le.mpr h1)) (fun q h => hA q (Nat.le_trans hS.1 h)) (fun r8 ur8 t H1 locs ht hvm w9 hB hz1 hk1 hS => ?_)
  have hP := keepR hP hk1
  obtain ⟨w9, w9x⟩ := w9
  subst w9
  refine va_lald hx hb hK.1 hP 2 1 rfl rfl (vp_in_nI (by have t_hs7 := hs7; have t_n0 : (nI i).toInt = (i : Int) := nI_toInt (by omega); have t_n1 : (nI d).toInt = (d : Int) := nI_toInt (by omega); have t_n2 : (nI b).toInt = (b : Int) := nI_toInt (by omega); have t_n3 : (nI N).toInt = (N : Int) := nI_toInt (by omega); have t_n4 : (nI B).toInt = (B : Int) := nI_toInt (by omega); have t_n5 : (nI T).toInt = (T : Int) := nI_toInt (by omega); have t_n6 : (nI S).toInt = (S : Int) := nI_toInt (by omega); have t_n7 : (nI M).toInt = (M : Int) := nI_toInt (by omega); omega) (by decide)) dX11_byOne_54 ?_
  refine lv_cgl (y := fbe (70 * (i + 1) + 10 * (b + 1) + (min 9 (d + 1)))) (by rw [nI_clamp (by omega)]) ?_
  refine lv_lmul hx hb dX11_byOne_55 ?_
  refine lv_ladd hx hb dX11_byOne_56 ?_
  have hpost : ((((rhN fst i b 0).toInt64) * (fbe (70 * (i + 1) + 10 * (b + 1) + (d - 1)))) + (((20 - (rhN fst i b 0)).toInt64) * (fbe (70 * (i + 1) + 10 * (b + 1) + (min 9 (d + 1))))) : Int64) = b1N fst fbe i d b := by
    rfl
  refine W.widen (k := 0) (n := 0) (by omega) (by omega) ?_
  exact W.lret (v := (((rhN fst i b 0).toInt64) * (fbe (70 * (i + 1) + 10 * (b + 1) + (d - 1)))) + (((20 - (rhN fst i b 0)).toInt64) * (fbe (70 * (i + 1) + 10 * (b + 1) + (min 9 (d + 1)))))) hx hb hr (fun t ht hW => ⟨⟨(((rhN fst i b 0).toInt64) * (fbe (70 * (i + 1) + 10 * (b + 1) + (d - 1)))) + (((20 - (rhN fst i b 0)).toInt64) * (fbe (70 * (i + 1) + 10 * (b + 1) + (min 9 (d + 1))))), (), rfl, ⟨hpost, trivial⟩, trivial⟩, hS.F ht⟩) hS.2.2 dX11_byOne_57

set_option maxHeartbeats 1000000 in
set_option maxRecDepth 100000 in
theorem c_X11_byOneB (l : Launch) (dC : Nat → ClassId) (dI : Nat → Nat → Nat) (G : Nat → ClassId) (sz : Nat) (h0 i a d b st N B rp tp T cu lt od th be ln S ma M ah bh ik la lg ce : Nat) (vrs vrb vhs vca vxs vxb vfa vbr vba vsp vhe vtk vva vto : Int32) (fst : Nat → Int32) (fbe : Nat → Int64) (hN : N ≤ 10) (hB : B ≤ 6) (hT : T ≤ 320) (hS0 : S ≤ 8) (hM : M ≤ 6) (hi : i < 10) (hka : a < 6) (hkb : b < 6) (hd1 : 1 ≤ d ∧ d ≤ 9) : Met l yX11_byOne (Cond.code yX11_byOne cX11_byOne 6 (some .long) :: GT) ({ frames := 2, cells := 0, slots := 0, locals := 50 } : Room) (PcR [.ref h0, .int (nI i), .int (nI a), .int (nI d), .int (nI b)] dC dI G [(h0, .inr (11, [.ref st, .int (nI N), .int (nI B), .ref rp, .int vrs, .int vrb, .int vhs, .int vca, .int vxs, .int vxb, .ref tp, .int (nI T), .int vfa, .int vbr, .int vba, .int vsp, .int vhe, .int vtk, .int vva, .ref cu, .ref lt, .ref od, .ref th, .ref be, .ref ln, .int (nI S), .ref ma, .int (nI M), .ref ah, .ref bh, .ref ik, .ref la, .ref lg, .ref ce, .int vto])), (st, .inl (G 0, 196, .inl fst)), (be, .inl (G 1, 770, .inr (.inl fbe)))] sz) (va_Ql (fun (r : Int64) (u : Unit) => match u with | _ => (r = b1B fst fbe i a d b) ∧ True) (fun _ _ => True) (fun q : Nat => sz ≤ q)) 0 0 (fun q : Nat => sz ≤ q) := by
  refine Met.ofW (cc := cX11_byOne) (maxL := 6) (ret := (some .long)) (by decide) rfl ?_
  intro p e s m args below meth c s₁ Bd hml hv
  obtain ⟨rfl, hsz, hP, hK⟩ := hv
  have hx := Bd.exec
  have hb := Bd.bytes
  have hr := Bd.returns
  have hg : ∀ w ∈ GT, w.before ([.ref h0, .int (nI i), .int (nI a), .int (nI d), .int (nI b)] : List Value).toArray s = true := fun w h => atoms_spec (ws := Cond.code yX11_byOne cX11_byOne 6 (some .long) :: GT) Bd.pre w (List.mem_cons_of_mem _ h)
  have hown : s.vm.findClass RX11 = some m.cls := findClass_of_methodNamed Bd.named
  have hlocks := Bd.notSynchronized
  subst hsz
  have hA : ∀ q : Nat, s.heap.size ≤ q → (fun q : Nat => s.heap.size ≤ q) q := fun _ h => h
  have hS : va_S (fun q : Nat => s.heap.size ≤ q) s.heap s.heap [] := va_S.rf
  have hl := lv_entry ([.ref h0, .int (nI i), .int (nI a), .int (nI d), .int (nI b)]) (n := 6) (Nat.le_of_ble_eq_true rfl)
  rw [lg_entry_eq]
  generalize (lg_sl ([.ref h0, .int (nI i), .int (nI a), .int (nI d), .int (nI b)]) ++ List.replicate (6 - (lg_sl ([.ref h0, .int (nI i), .int (nI a), .int (nI d), .int (nI b)])).length) Slot.unset).toArray = ls at hl ⊢
  have hl : lv_has ls 6 [(0, .ref h0), (1, .int (nI i)), (2, .int (nI a)), (3, .int (nI d)), (4, .int (nI b))] := hl
  refine lv_aload_n hx hb dX11_byOne_0 rfl (lv_at hl 0 rfl) ?_
  refine lv_iload_n hx hb dX11_byOne_1 rfl (lv_at hl 1 rfl) ?_
  refine lv_iload_n hx hb dX11_byOne_2 rfl (lv_at hl 2 rfl) ?_
  refine lv_iload hx hb dX11_byOne_3 (lv_at hl 4 rfl) ?_
  refine lv_iconst (v := 0) hx hb dX11_byOne_5 (by decide) ?_
  have hPc := hP.sub (ws' := [(h0, .inr (11, [.ref st, .int (nI N), .int (nI B), .ref rp, .int vrs, .int vrb, .int vhs, .int vca, .int vxs, .int vxb, .ref tp, .int (nI T), .int vfa, .int vbr, .int vba, .int vsp, .int vhe, .int vtk, .int vva, .ref cu, .ref lt, .ref od, .ref th, .ref be, .ref ln, .int (nI S), .ref ma, .int (nI M), .ref ah, .ref bh, .ref ik, .ref la, .ref lg, .ref ce, .int vto])), (st, .inl (G 0, 196, .inl fst))]) [0, 1] rfl
  refine va_calli (va_runV (As := [.int (nI i), .int (nI a), .int (nI b), .int 0]) (rest := []) ⟨hx, hb, hml, hown, hg⟩ (c_X11_harmOfB l dC dI G _ h0 i a b st N B rp tp T cu lt od th be ln S ma M ah bh ik la lg ce 0 vrs vrb vhs vca vxs vxb vfa vbr vba vsp vhe vtk vva vto fst (by have t_n0 : (nI i).toInt = (i : Int) := nI_toInt (by omega); have t_n1 : (nI a).toInt = (a : Int) := nI_toInt (by omega); have t_n2 : (nI d).toInt = (d : Int) := nI_toInt (by omega); have t_n3 : (nI b).toInt = (b : Int) := nI_toInt (by omega); have t_n4 : (nI N).toInt = (N : Int) := nI_toInt (by omega); have t_n5 : (nI B).toInt = (B : Int) := nI_toInt (by omega); have t_n6 : (nI T).toInt = (T : Int) := nI_toInt (by omega); have t_n7 : (nI S).toInt = (S : Int) := nI_toInt (by omega); have t_n8 : (nI M).toInt = (M : Int) := nI_toInt (by omega); have : (0 : Int32).toInt = 0 := (by decide); omega) (by have t_n0 : (nI i).toInt = (i : Int) := nI_toInt (by omega); have t_n1 : (nI a).toInt = (a : Int) := nI_toInt (by omega); have t_n2 : (nI d).toInt = (d : Int) := nI_toInt (by omega); have t_n3 : (nI b).toInt = (b : Int) := nI_toInt (by omega); have t_n4 : (nI N).toInt = (N : Int) := nI_toInt (by omega); have t_n5 : (nI B).toInt = (B : Int) := nI_toInt (by omega); have t_n6 : (nI T).toInt = (T : Int) := nI_toInt (by omega); have t_n7 : (nI S).toInt = (S : Int) := nI_toInt (by omega); have t_n8 : (nI M).toInt = (M : Int) := nI_toInt (by omega); have : (0 : Int32).toInt = 0 := (by decide); omega) (by have t_n0 : (nI i).toInt = (i : Int) := nI_toInt (by omega); have t_n1 : (nI a).toInt = (a : Int) := nI_toInt (by omega); have t_n2 : (nI d).toInt = (d : Int) := nI_toInt (by omega); have t_n3 : (nI b).toInt = (b : Int) := nI_toInt (by omega); have t_n4 : (nI N).toInt = (N : Int) := nI_toInt (by omega); have t_n5 : (nI B).toInt = (B : Int) := nI_toInt (by omega); have t_n6 : (nI T).toInt = (T : Int) := nI_toInt (by omega); have t_n7 : (nI S).toInt = (S : Int) := nI_toInt (by omega); have t_n8 : (nI M).toInt = (M : Int) := nI_toInt (by omega); have : (0 : Int32).toInt = 0 := (by decide); omega) (by have t_n0 : (nI i).toInt = (i : Int) := nI_toInt (by omega); have t_n1 : (nI a).toInt = (a : Int) := nI_toInt (by omega); have t_n2 : (nI d).toInt = (d : Int) := nI_toInt (by omega); have t_n3 : (nI b).toInt = (b : Int) := nI_toInt (by omega); have t_n4 : (nI N).toInt = (N : Int) := nI_toInt (by omega); have t_n5 : (nI B).toInt = (B : Int) := nI_toInt (by omega); have t_n6 : (nI T).toInt = (T : Int) := nI_toInt (by omega); have t_n7 : (nI S).toInt = (S : Int) := nI_toInt (by omega); have t_n8 : (nI M).toInt = (M : Int) := nI_toInt (by omega); have : (0 : Int32).toInt = 0 := (by decide); omega) (by have t_n0 : (nI i).toInt = (i : Int) := nI_toInt (by omega); have t_n1 : (nI a).toInt = (a : Int) := nI_toInt (by omega); have t_n2 : (nI d).toInt = (d : Int) := nI_toInt (by omega); have t_n3 : (nI b).toInt = (b : Int) := nI_toInt (by omega); have t_n4 : (nI N).toInt = (N : Int) := nI_toInt (by omega); have t_n5 : (nI B).toInt = (B : Int) := nI_toInt (by omega); have t_n6 : (nI T).toInt = (T : Int) := nI_toInt (by omega); have t_n7 : (nI S).toInt = (S : Int) := nI_toInt (by omega); have t_n8 : (nI M).toInt = (M : Int) := nI_toInt (by omega); have : (0 : Int32).toInt = 0 := (by decide); omega) (by have t_n0 : (nI i).toInt = (i : Int) := nI_toInt (by omega); have t_n1 : (nI a).toInt = (a : Int) := nI_toInt (by omega); have t_n2 : (nI d).toInt = (d : Int) := nI_toInt (by omega); have t_n3 : (nI b).toInt = (b : Int) := nI_toInt (by omega); have t_n4 : (nI N).toInt = (N : Int) := nI_toInt (by omega); have t_n5 : (nI B).toInt = (B : Int) := nI_toInt (by omega); have t_n6 : (nI T).toInt = (T : Int) := nI_toInt (by omega); have t_n7 : (nI S).toInt = (S : Int) := nI_toInt (by omega); have t_n8 : (nI M).toInt = (M : Int) := nI_toInt (by omega); have : (0 : Int32).toInt = 0 := (by decide); omega) (by have t_n0 : (nI i).toInt = (i : Int) := nI_toInt (by omega); have t_n1 : (nI a).toInt = (a : Int) := nI_toInt (by omega); have t_n2 : (nI d).toInt = (d : Int) := nI_toInt (by omega); have t_n3 : (nI b).toInt = (b : Int) := nI_toInt (by omega); have t_n4 : (nI N).toInt = (N : Int) := nI_toInt (by omega); have t_n5 : (nI B).toInt = (B : Int) := nI_toInt (by omega); have t_n6 : (nI T).toInt = (T : Int) := nI_toInt (by omega); have t_n7 : (nI S).toInt = (S : Int) := nI_toInt (by omega); have t_n8 : (nI M).toInt = (M : Int) := nI_toInt (by omega); have : (0 : Int32).toInt = 0 := (by decide); omega) (by have t_n0 : (nI i).toInt = (i : Int) := nI_toInt (by omega); have t_n1 : (nI a).toInt = (a : Int) := nI_toInt (by omega); have t_n2 : (nI d).toInt = (d : Int) := nI_toInt (by omega); have t_n3 : (nI b).toInt = (b : Int) := nI_toInt (by omega); have t_n4 : (nI N).toInt = (N : Int) := nI_toInt (by omega); have t_n5 : (nI B).toInt = (B : Int) := nI_toInt (by omega); have t_n6 : (nI T).toInt = (T : Int) := nI_toInt (by omega); have t_n7 : (nI S).toInt = (S : Int) := nI_toInt (by omega); have t_n8 : (nI M).toInt = (M : Int) := nI_toInt (by omega); have : (0 : Int32).toInt = 0 := (by decide); omega)) (kwV hg mfX11_harmOf wt_1106 ⟨Nat.le_of_ble_eq_true rfl, Nat.le_of_ble_eq_true rfl⟩) (preVR hK hPc (ci := 11) rfl rfl) rfl rfl hl.1 rfl (lv_room (Nat.le_of_ble_eq_true rfl)) dX11_byOne_6 ⟨Nat.le_of_ble_eq_true rfl, Nat.le_of_ble_eq_true rfl⟩) hS (fun q h1 h2 => absurd h2 (Nat.not_le.mpr h1)) (fun q h => hA q (Nat.le_trans hS.1 h)) (fun r1 ur1 t H1 locs ht hvm w2 hB hz1 hk1 hS => ?_)
  have hP := keepR hP hk1
  obtain ⟨w2, w2x⟩ := w2
  subst w2
  refine lv_istore (lv' := [(5, .int (rhB fst i a b 0)), (0, .ref h0), (1, .int (nI i)), (2, .int (nI a)), (3, .int (nI d)), (4, .int (nI b))]) hx hb dX11_byOne_9 hl (by decide) rfl (fun ls hl => ?_)
  refine lv_iload hx hb dX11_byOne_11 (lv_at hl 0 rfl) ?_
  refine lv_i2l (v := (rhB fst i a b 0).toInt64) hx hb dX11_byOne_13 rfl ?_
  refine lv_aload_n hx hb dX11_byOne_14 rfl (lv_at hl 1 rfl) ?_
  refine va_get (D := (dC, dI)) (ci := 11) (v := .ref be) (C := RX11) (T := TX11) (N := 35) hx hb hg inG11 hown hK.1 hP 0 rfl rfl 23 (by decide) (hg _ wt_901) (fun _ h9 => h9) rfl dX11_byOne_15 ?_
  refine lv_iload_n hx hb dX11_byOne_18 rfl (lv_at hl 2 rfl) ?_
  refine lv_iconst (v := 1) hx hb dX11_byOne_19 (by decide) ?_
  refine lv_iadd hx hb dX11_byOne_20 ?_
  refine lv_cg (y := nI (i + 1)) (by rw [show (1 : Int32) = nI 1 from rfl]; exact nI_add _ _) ?_
  refine lv_iload hx hb dX11_byOne_21 (lv_at hl 5 rfl) ?_
  refine lv_iload_n hx hb dX11_byOne_23 rfl (lv_at hl 4 rfl) ?_
  refine lv_iconst (v := 1) hx hb dX11_byOne_24 (by decide) ?_
  refine lv_isub hx hb dX11_byOne_25 ?_
  refine lv_cg (y := nI (d - 1)) (by rw [show (1 : Int32) = nI 1 from rfl]; exact pk_sub (by have t_n0 : (nI i).toInt = (i : Int) := nI_toInt (by omega); have t_n1 : (nI a).toInt = (a : Int) := nI_toInt (by omega); have t_n2 : (nI d).toInt = (d : Int) := nI_toInt (by omega); have t_n3 : (nI b).toInt = (b : Int) := nI_toInt (by omega); have t_n4 : (nI N).toInt = (N : Int) := nI_toInt (by omega); have t_n5 : (nI B).toInt = (B : Int) := nI_toInt (by omega); have t_n6 : (nI T).toInt = (T : Int) := nI_toInt (by omega); have t_n7 : (nI S).toInt = (S : Int) := nI_toInt (by omega); have t_n8 : (nI M).toInt = (M : Int) := nI_toInt (by omega); omega)) ?_
  have hPc := hP.sub (ws' := []) [] rfl
  refine va_calli (va_runS (As := [.int (nI (i + 1)), .int (nI b), .int (nI (d - 1))]) (rest := [.ref be, .long ((rhB fst i a b 0).toInt64)]) ⟨hx, hb, hml, hown, hg⟩ (c_X11_bestAtB l dC dI G _ (i + 1) b (d - 1) (by have t_n0 : (nI i).toInt = (i : Int) := nI_toInt (by omega); have t_n1 : (nI a).toInt = (a : Int) := nI_toInt (by omega); have t_n2 : (nI d).toInt = (d : Int) := nI_toInt (by omega); have t_n3 : (nI b).toInt = (b : Int) := nI_toInt (by omega); have t_n4 : (nI N).toInt = (N : Int) := nI_toInt (by omega); have t_n5 : (nI B).toInt = (B : Int) := nI_toInt (by omega); have t_n6 : (nI T).toInt = (T : Int) := nI_toInt (by omega); have t_n7 : (nI S).toInt = (S : Int) := nI_toInt (by omega); have t_n8 : (nI M).toInt = (M : Int) := nI_toInt (by omega); omega) (by have t_n0 : (nI i).toInt = (i : Int) := nI_toInt (by omega); have t_n1 : (nI a).toInt = (a : Int) := nI_toInt (by omega); have t_n2 : (nI d).toInt = (d : Int) := nI_toInt (by omega); have t_n3 : (nI b).toInt = (b : Int) := nI_toInt (by omega); have t_n4 : (nI N).toInt = (N : Int) := nI_toInt (by omega); have t_n5 : (nI B).toInt = (B : Int) := nI_toInt (by omega); have t_n6 : (nI T).toInt = (T : Int) := nI_toInt (by omega); have t_n7 : (nI S).toInt = (S : Int) := nI_toInt (by omega); have t_n8 : (nI M).toInt = (M : Int) := nI_toInt (by omega); omega) (by have t_n0 : (nI i).toInt = (i : Int) := nI_toInt (by omega); have t_n1 : (nI a).toInt = (a : Int) := nI_toInt (by omega); have t_n2 : (nI d).toInt = (d : Int) := nI_toInt (by omega); have t_n3 : (nI b).toInt = (b : Int) := nI_toInt (by omega); have t_n4 : (nI N).toInt = (N : Int) := nI_toInt (by omega); have t_n5 : (nI B).toInt = (B : Int) := nI_toInt (by omega); have t_n6 : (nI T).toInt = (T : Int) := nI_toInt (by omega); have t_n7 : (nI S).toInt = (S : Int) := nI_toInt (by omega); have t_n8 : (nI M).toInt = (M : Int) := nI_toInt (by omega); omega)) (kwS hg mfX11_bestAt wt_1159 ⟨Nat.le_of_ble_eq_true rfl, Nat.le_of_ble_eq_true rfl⟩) (preSR hK hPc) rfl rfl hl.1 rfl (lv_room (Nat.le_of_ble_eq_true rfl)) dX11_byOne_26 ⟨Nat.le_of_ble_eq_true rfl, Nat.le_of_ble_eq_true rfl⟩) hS (fun q h1 h2 => absurd h2 (Nat.not_le.mpr h1)) (fun q h => hA q (Nat.le_trans hS.1 h)) (fun r3 ur3 t H1 locs ht hvm w4 hB hz1 hk1 hS => ?_)
  have hP := keepR hP hk1
  obtain ⟨w4, w4x⟩ := w4
  subst w4
  refine va_lald hx hb hK.1 hP 2 1 rfl rfl (vp_in_nI (by have t_n0 : (nI i).toInt = (i : Int) := nI_toInt (by omega); have t_n1 : (nI a).toInt = (a : Int) := nI_toInt (by omega); have t_n2 : (nI d).toInt = (d : Int) := nI_toInt (by omega); have t_n3 : (nI b).toInt = (b : Int) := nI_toInt (by omega); have t_n4 : (nI N).toInt = (N : Int) := nI_toInt (by omega); have t_n5 : (nI B).toInt = (B : Int) := nI_toInt (by omega); have t_n6 : (nI T).toInt = (T : Int) := nI_toInt (by omega); have t_n7 : (nI S).toInt = (S : Int) := nI_toInt (by omega); have t_n8 : (nI M).toInt = (M : Int) := nI_toInt (by omega); omega) (by decide)) dX11_byOne_29 ?_
  refine lv_cgl (y := fbe (70 * (i + 1) + 10 * (b + 1) + (d - 1))) (by rw [nI_clamp (by omega)]) ?_
  refine lv_lmul hx hb dX11_byOne_30 ?_
  refine lv_bipush (v := 20) hx hb dX11_byOne_31 (by decide) ?_
  refine lv_iload hx hb dX11_byOne_33 (lv_at hl 0 rfl) ?_
  refine lv_isub hx hb dX11_byOne_35 ?_
  refine lv_i2l (v := (20 - (rhB fst i a b 0)).toInt64) hx hb dX11_byOne_36 rfl ?_
  refine lv_aload_n hx hb dX11_byOne_37 rfl (lv_at hl 1 rfl) ?_
  refine va_get (D := (dC, dI)) (ci := 11) (v := .ref be) (C := RX11) (T := TX11) (N := 35) hx hb hg inG11 hown hK.1 hP 0 rfl rfl 23 (by decide) (hg _ wt_901) (fun _ h9 => h9) rfl dX11_byOne_38 ?_
  refine lv_iload_n hx hb dX11_byOne_41 rfl (lv_at hl 2 rfl) ?_
  refine lv_iconst (v := 1) hx hb dX11_byOne_42 (by decide) ?_
  refine lv_iadd hx hb dX11_byOne_43 ?_
  refine lv_cg (y := nI (i + 1)) (by rw [show (1 : Int32) = nI 1 from rfl]; exact nI_add _ _) ?_
  refine lv_iload hx hb dX11_byOne_44 (lv_at hl 5 rfl) ?_
  refine lv_iload_n hx hb dX11_byOne_46 rfl (lv_at hl 4 rfl) ?_
  refine lv_iconst (v := 1) hx hb dX11_byOne_47 (by decide) ?_
  have hPc := hP.sub (ws' := []) [] rfl
  refine va_calli (va_runS (As := [.int (nI d), .int 1]) (rest := [.int (nI b), .int (nI (i + 1)), .ref be, .long ((20 - (rhB fst i a b 0)).toInt64), .long (((rhB fst i a b 0).toInt64) * (fbe (70 * (i + 1) + 10 * (b + 1) + (d - 1))))]) ⟨hx, hb, hml, hown, hg⟩ (c_X11_deeper l dC dI G _ d 1 (by have t_n0 : (nI i).toInt = (i : Int) := nI_toInt (by omega); have t_n1 : (nI a).toInt = (a : Int) := nI_toInt (by omega); have t_n2 : (nI d).toInt = (d : Int) := nI_toInt (by omega); have t_n3 : (nI b).toInt = (b : Int) := nI_toInt (by omega); have t_n4 : (nI N).toInt = (N : Int) := nI_toInt (by omega); have t_n5 : (nI B).toInt = (B : Int) := nI_toInt (by omega); have t_n6 : (nI T).toInt = (T : Int) := nI_toInt (by omega); have t_n7 : (nI S).toInt = (S : Int) := nI_toInt (by omega); have t_n8 : (nI M).toInt = (M : Int) := nI_toInt (by omega); have : (1 : Int32).toInt = 1 := (by decide); omega) (by have t_n0 : (nI i).toInt = (i : Int) := nI_toInt (by omega); have t_n1 : (nI a).toInt = (a : Int) := nI_toInt (by omega); have t_n2 : (nI d).toInt = (d : Int) := nI_toInt (by omega); have t_n3 : (nI b).toInt = (b : Int) := nI_toInt (by omega); have t_n4 : (nI N).toInt = (N : Int) := nI_toInt (by omega); have t_n5 : (nI B).toInt = (B : Int) := nI_toInt (by omega); have t_n6 : (nI T).toInt = (T : Int) := nI_toInt (by omega); have t_n7 : (nI S).toInt = (S : Int) := nI_toInt (by omega); have t_n8 : (nI M).toInt = (M : Int) := nI_toInt (by omega); have : (1 : Int32).toInt = 1 := (by decide); omega)) (kwS hg mfX11_deeper wt_1128 ⟨Nat.le_of_ble_eq_true rfl, Nat.le_of_ble_eq_true rfl⟩) (preSR hK hPc) rfl rfl hl.1 rfl (lv_room (Nat.le_of_ble_eq_true rfl)) dX11_byOne_48 ⟨Nat.le_of_ble_eq_true rfl, Nat.le_of_ble_eq_true rfl⟩) hS (fun q h1 h2 => absurd h2 (Nat.not_le.mpr h1)) (fun q h => hA q (Nat.le_trans hS.1 h)) (fun r5 ur5 t H1 locs ht hvm w6 hB hz1 hk1 hS => ?_)
  have hP := keepR hP hk1
  obtain ⟨w6, w6x⟩ := w6
  have hs7 : d ≤ (min 9 (d + 1)) ∧ (min 9 (d + 1)) ≤ 9 := (by omega)
  subst w6
  have hPc := hP.sub (ws' := []) [] rfl
  refine va_calli (va_runS (As := [.int (nI (i + 1)), .int (nI b), .int (nI (min 9 (d + 1)))]) (rest := [.ref be, .long ((20 - (rhB fst i a b 0)).toInt64), .long (((rhB fst i a b 0).toInt64) * (fbe (70 * (i + 1) + 10 * (b + 1) + (d - 1))))]) ⟨hx, hb, hml, hown, hg⟩ (c_X11_bestAtB l dC dI G _ (i + 1) b (min 9 (d + 1)) (by have t_hs7 := hs7; have t_n0 : (nI i).toInt = (i : Int) := nI_toInt (by omega); have t_n1 : (nI a).toInt = (a : Int) := nI_toInt (by omega); have t_n2 : (nI d).toInt = (d : Int) := nI_toInt (by omega); have t_n3 : (nI b).toInt = (b : Int) := nI_toInt (by omega); have t_n4 : (nI N).toInt = (N : Int) := nI_toInt (by omega); have t_n5 : (nI B).toInt = (B : Int) := nI_toInt (by omega); have t_n6 : (nI T).toInt = (T : Int) := nI_toInt (by omega); have t_n7 : (nI S).toInt = (S : Int) := nI_toInt (by omega); have t_n8 : (nI M).toInt = (M : Int) := nI_toInt (by omega); omega) (by have t_hs7 := hs7; have t_n0 : (nI i).toInt = (i : Int) := nI_toInt (by omega); have t_n1 : (nI a).toInt = (a : Int) := nI_toInt (by omega); have t_n2 : (nI d).toInt = (d : Int) := nI_toInt (by omega); have t_n3 : (nI b).toInt = (b : Int) := nI_toInt (by omega); have t_n4 : (nI N).toInt = (N : Int) := nI_toInt (by omega); have t_n5 : (nI B).toInt = (B : Int) := nI_toInt (by omega); have t_n6 : (nI T).toInt = (T : Int) := nI_toInt (by omega); have t_n7 : (nI S).toInt = (S : Int) := nI_toInt (by omega); have t_n8 : (nI M).toInt = (M : Int) := nI_toInt (by omega); omega) (by have t_hs7 := hs7; have t_n0 : (nI i).toInt = (i : Int) := nI_toInt (by omega); have t_n1 : (nI a).toInt = (a : Int) := nI_toInt (by omega); have t_n2 : (nI d).toInt = (d : Int) := nI_toInt (by omega); have t_n3 : (nI b).toInt = (b : Int) := nI_toInt (by omega); have t_n4 : (nI N).toInt = (N : Int) := nI_toInt (by omega); have t_n5 : (nI B).toInt = (B : Int) := nI_toInt (by omega); have t_n6 : (nI T).toInt = (T : Int) := nI_toInt (by omega); have t_n7 : (nI S).toInt = (S : Int) := nI_toInt (by omega); have t_n8 : (nI M).toInt = (M : Int) := nI_toInt (by omega); omega)) (kwS hg mfX11_bestAt wt_1159 ⟨Nat.le_of_ble_eq_true rfl, Nat.le_of_ble_eq_true rfl⟩) (preSR hK hPc) rfl rfl hl.1 rfl (lv_room (Nat.le_of_ble_eq_true rfl)) dX11_byOne_51 ⟨Nat.le_of_ble_eq_true rfl, Nat.le_of_ble_eq_true rfl⟩) hS (fun q h1 h2 => absurd h2 (Nat.not_le.mpr h1)) (fun q h => hA q (Nat.le_trans hS.1 h)) (fun r8 ur8 t H1 locs ht hvm w9 hB hz1 hk1 hS => ?_)
  have hP := keepR hP hk1
  obtain ⟨w9, w9x⟩ := w9
  subst w9
  refine va_lald hx hb hK.1 hP 2 1 rfl rfl (vp_in_nI (by have t_hs7 := hs7; have t_n0 : (nI i).toInt = (i : Int) := nI_toInt (by omega); have t_n1 : (nI a).toInt = (a : Int) := nI_toInt (by omega); have t_n2 : (nI d).toInt = (d : Int) := nI_toInt (by omega); have t_n3 : (nI b).toInt = (b : Int) := nI_toInt (by omega); have t_n4 : (nI N).toInt = (N : Int) := nI_toInt (by omega); have t_n5 : (nI B).toInt = (B : Int) := nI_toInt (by omega); have t_n6 : (nI T).toInt = (T : Int) := nI_toInt (by omega); have t_n7 : (nI S).toInt = (S : Int) := nI_toInt (by omega); have t_n8 : (nI M).toInt = (M : Int) := nI_toInt (by omega); omega) (by decide)) dX11_byOne_54 ?_
  refine lv_cgl (y := fbe (70 * (i + 1) + 10 * (b + 1) + (min 9 (d + 1)))) (by rw [nI_clamp (by omega)]) ?_
  refine lv_lmul hx hb dX11_byOne_55 ?_
  refine lv_ladd hx hb dX11_byOne_56 ?_
  have hpost : ((((rhB fst i a b 0).toInt64) * (fbe (70 * (i + 1) + 10 * (b + 1) + (d - 1)))) + (((20 - (rhB fst i a b 0)).toInt64) * (fbe (70 * (i + 1) + 10 * (b + 1) + (min 9 (d + 1))))) : Int64) = b1B fst fbe i a d b := by
    rfl
  refine W.widen (k := 0) (n := 0) (by omega) (by omega) ?_
  exact W.lret (v := (((rhB fst i a b 0).toInt64) * (fbe (70 * (i + 1) + 10 * (b + 1) + (d - 1)))) + (((20 - (rhB fst i a b 0)).toInt64) * (fbe (70 * (i + 1) + 10 * (b + 1) + (min 9 (d + 1)))))) hx hb hr (fun t ht hW => ⟨⟨(((rhB fst i a b 0).toInt64) * (fbe (70 * (i + 1) + 10 * (b + 1) + (d - 1)))) + (((20 - (rhB fst i a b 0)).toInt64) * (fbe (70 * (i + 1) + 10 * (b + 1) + (min 9 (d + 1))))), (), rfl, ⟨hpost, trivial⟩, trivial⟩, hS.F ht⟩) hS.2.2 dX11_byOne_57
