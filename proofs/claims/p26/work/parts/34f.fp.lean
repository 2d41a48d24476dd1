/-! p26: the mean of last steps, and that no champion of steps stops earlier -/
def pq_ge (o : Option Ordering) : Bool := match o with
  | some .lt => false
  | some _ => true
  | none => false
theorem fq_scale (s : Bool) (c : Nat) {q e e' : Int} (h1 : e' ≤ e) (h2 : e ≤ q) : FP.Core.signed s (FP.Core.inUnits c q e') = FP.Core.signed s (FP.Core.inUnits c q e) * ((2 ^ (e - e').toNat : Nat) : Int) := by
  have e1 : FP.Core.inUnits c q e' = FP.Core.inUnits c q e * 2 ^ (e - e').toNat := by
    unfold FP.Core.inUnits
    rw [show (q - e').toNat = (q - e).toNat + (e - e').toNat by omega, Nat.pow_add, Nat.mul_assoc]
  rw [e1]
  unfold FP.Core.signed
  cases s
  · simp
  · simp [Int.neg_mul]
theorem fq_cmp (x y : Int) : pq_ge (some (compare x y)) = true ↔ y ≤ x := by
  show pq_ge (some (compareOfLessAndEq x y)) = true ↔ y ≤ x
  unfold compareOfLessAndEq
  by_cases h : x < y
  · rw [if_pos h]
    exact ⟨fun q => absurd q (by decide), fun q => by omega⟩
  · rw [if_neg h]
    by_cases h2 : x = y
    · rw [if_pos h2]
      exact ⟨fun _ => (by omega), fun _ => rfl⟩
    · rw [if_neg h2]
      exact ⟨fun _ => (by omega), fun _ => rfl⟩
theorem fq_fin {s t : Bool} {c d : Nat} {q r e : Int} (h1 : e ≤ q) (h2 : e ≤ r) : pq_ge (FP.Core.order (.fin s c q) (.fin t d r)) = true ↔ FP.Core.signed t (FP.Core.inUnits d r e) ≤ FP.Core.signed s (FP.Core.inUnits c q e) := by
  show pq_ge (some (compare (FP.Core.signed s (FP.Core.inUnits c q (min q r))) (FP.Core.signed t (FP.Core.inUnits d r (min q r))))) = true ↔ _
  rw [fq_cmp, fq_scale s c (e := min q r) (e' := e) (by omega) (by omega), fq_scale t d (e := min q r) (e' := e) (by omega) (by omega)]
  have hp : (0 : Int) < ((2 ^ (min q r - e).toNat : Nat) : Int) := by
    have := Nat.two_pow_pos (min q r - e).toNat
    omega
  exact ⟨fun h => Int.mul_le_mul_of_nonneg_right h (Int.le_of_lt hp), fun h => Int.le_of_mul_le_mul_right h hp⟩
def pq_isf (d : FP.Core.Datum) : Bool := match d with
  | .fin .. => true
  | _ => false
theorem fq_trans {a b c : FP.Core.Datum} (ha : pq_isf a = true) (hb : pq_isf b = true) (hc : pq_isf c = true) (h1 : pq_ge (FP.Core.order a b) = true) (h2 : pq_ge (FP.Core.order b c) = true) : pq_ge (FP.Core.order a c) = true := by
  cases a with
  | nan => exact absurd ha (by decide)
  | inf s => exact absurd (show false = true from ha) (by decide)
  | fin s1 c1 q1 =>
    cases b with
    | nan => exact absurd hb (by decide)
    | inf s => exact absurd (show false = true from hb) (by decide)
    | fin s2 c2 q2 =>
      cases c with
      | nan => exact absurd hc (by decide)
      | inf s => exact absurd (show false = true from hc) (by decide)
      | fin s3 c3 q3 =>
        rw [fq_fin (e := min (min q1 q2) q3) (by omega) (by omega)] at h1 h2 ⊢
        exact Int.le_trans h2 h1
def pq_fd64 (x : UInt64) : FP.Core.Datum := FP.Core.decode FP.Core.b64 x.toNat
/-- the mean of a sum s of c numbers -/
def pq_fm (s c : Nat) : UInt64 := FP.ddiv (FP.i2d (zi s)) (FP.i2d (zi c))
def pq_bin (f : Nat → Bool) : Nat → Nat → Bool
  | 0, a => f a
  | n + 1, a => pq_bin f n a && pq_bin f n (a + 2 ^ n)
theorem pq_bin_at {f : Nat → Bool} : ∀ {n a : Nat}, pq_bin f n a = true → ∀ i, i < 2 ^ n → f (a + i) = true
  | 0, a, h, i, hi => by
    have h0 : i = 0 := by rw [Nat.pow_zero] at hi; omega
    rw [h0]
    exact h
  | n + 1, a, h, i, hi => by
    have h : (pq_bin f n a && pq_bin f n (a + 2 ^ n)) = true := h
    rw [Bool.and_eq_true] at h
    rw [Nat.pow_succ] at hi
    rcases Nat.lt_or_ge i (2 ^ n) with q | q
    · exact pq_bin_at h.1 i q
    · have h2 := pq_bin_at h.2 (i - 2 ^ n) (by omega)
      rwa [show a + 2 ^ n + (i - 2 ^ n) = a + i by omega] at h2
def pq_nn (x : UInt64) : Bool := decide (x &&& 0x7fffffffffffffff ≤ 0x7ff0000000000000)
theorem pq_nn_ok {x : UInt64} (h : pq_nn x = true) : vf_n64 x := by
  unfold pq_nn at h
  have h2 := of_decide_eq_true h
  exact h2
/-- a mean is a number, a little less of it too, and the next whole number isn't less than that -/
def pq_fc (c s : Nat) : Bool := pq_nn (pq_fm s (c + 1)) && (pq_nn (FP.dsub (pq_fm s (c + 1)) 4547007122018943789) && (pq_isf (pq_fd64 (FP.dsub (pq_fm s (c + 1)) 4547007122018943789)) && pq_ge (FP.dcmp (FP.i2d (zi ((s + c) / (c + 1) : Nat))) (FP.dsub (pq_fm s (c + 1)) 4547007122018943789))))
/-- whole numbers as doubles: numbers, and in their order -/
def pq_fi (m : Nat) : Bool := pq_isf (pq_fd64 (FP.i2d (zi m))) && pq_ge (FP.dcmp (FP.i2d (zi (m + 1 : Nat))) (FP.i2d (zi m)))
set_option maxRecDepth 100000 in
theorem pq_fi_ok : pq_bin pq_fi 11 0 = true := by decide +kernel
theorem pq_fi_at {m : Nat} (hm : m < 2048) : pq_fi m = true := by
  have h := pq_bin_at pq_fi_ok m (by omega)
  rwa [Nat.zero_add] at h
set_option maxRecDepth 100000 in
theorem pq_fb_0_0 : pq_bin (pq_fc 0) 9 (512 * 0) = true := by decide +kernel
theorem pq_fk_0 : ∀ k : Nat, k ≤ 0 → pq_bin (pq_fc 0) 9 (512 * k) = true
  | 0, _ => pq_fb_0_0
  | k + 1, h => absurd h (by omega)
set_option maxRecDepth 100000 in
theorem pq_fb_1_0 : pq_bin (pq_fc 1) 9 (512 * 0) = true := by decide +kernel
set_option maxRecDepth 100000 in
theorem pq_fb_1_1 : pq_bin (pq_fc 1) 9 (512 * 1) = true := by decide +kernel
theorem pq_fk_1 : ∀ k : Nat, k ≤ 1 → pq_bin (pq_fc 1) 9 (512 * k) = true
  | 0, _ => pq_fb_1_0
  | 1, _ => pq_fb_1_1
  | k + 2, h => absurd h (by omega)
set_option maxRecDepth 100000 in
theorem pq_fb_2_0 : pq_bin (pq_fc 2) 9 (512 * 0) = true := by decide +kernel
set_option maxRecDepth 100000 in
theorem pq_fb_2_1 : pq_bin (pq_fc 2) 9 (512 * 1) = true := by decide +kernel
set_option maxRecDepth 100000 in
theorem pq_fb_2_2 : pq_bin (pq_fc 2) 9 (512 * 2) = true := by decide +kernel
theorem pq_fk_2 : ∀ k : Nat, k ≤ 2 → pq_bin (pq_fc 2) 9 (512 * k) = true
  | 0, _ => pq_fb_2_0
  | 1, _ => pq_fb_2_1
  | 2, _ => pq_fb_2_2
  | k + 3, h => absurd h (by omega)
set_option maxRecDepth 100000 in
theorem pq_fb_3_0 : pq_bin (pq_fc 3) 9 (512 * 0) = true := by decide +kernel
set_option maxRecDepth 100000 in
theorem pq_fb_3_1 : pq_bin (pq_fc 3) 9 (512 * 1) = true := by decide +kernel
set_option maxRecDepth 100000 in
theorem pq_fb_3_2 : pq_bin (pq_fc 3) 9 (512 * 2) = true := by decide +kernel
set_option maxRecDepth 100000 in
theorem pq_fb_3_3 : pq_bin (pq_fc 3) 9 (512 * 3) = true := by decide +kernel
theorem pq_fk_3 : ∀ k : Nat, k ≤ 3 → pq_bin (pq_fc 3) 9 (512 * k) = true
  | 0, _ => pq_fb_3_0
  | 1, _ => pq_fb_3_1
  | 2, _ => pq_fb_3_2
  | 3, _ => pq_fb_3_3
  | k + 4, h => absurd h (by omega)
set_option maxRecDepth 100000 in
theorem pq_fb_4_0 : pq_bin (pq_fc 4) 9 (512 * 0) = true := by decide +kernel
set_option maxRecDepth 100000 in
theorem pq_fb_4_1 : pq_bin (pq_fc 4) 9 (512 * 1) = true := by decide +kernel
set_option maxRecDepth 100000 in
theorem pq_fb_4_2 : pq_bin (pq_fc 4) 9 (512 * 2) = true := by decide +kernel
set_option maxRecDepth 100000 in
theorem pq_fb_4_3 : pq_bin (pq_fc 4) 9 (512 * 3) = true := by decide +kernel
set_option maxRecDepth 100000 in
theorem pq_fb_4_4 : pq_bin (pq_fc 4) 9 (512 * 4) = true := by decide +kernel
theorem pq_fk_4 : ∀ k : Nat, k ≤ 4 → pq_bin (pq_fc 4) 9 (512 * k) = true
  | 0, _ => pq_fb_4_0
  | 1, _ => pq_fb_4_1
  | 2, _ => pq_fb_4_2
  | 3, _ => pq_fb_4_3
  | 4, _ => pq_fb_4_4
  | k + 5, h => absurd h (by omega)
set_option maxRecDepth 100000 in
theorem pq_fb_5_0 : pq_bin (pq_fc 5) 9 (512 * 0) = true := by decide +kernel
set_option maxRecDepth 100000 in
theorem pq_fb_5_1 : pq_bin (pq_fc 5) 9 (512 * 1) = true := by decide +kernel
set_option maxRecDepth 100000 in
theorem pq_fb_5_2 : pq_bin (pq_fc 5) 9 (512 * 2) = true := by decide +kernel
set_option maxRecDepth 100000 in
theorem pq_fb_5_3 : pq_bin (pq_fc 5) 9 (512 * 3) = true := by decide +kernel
set_option maxRecDepth 100000 in
theorem pq_fb_5_4 : pq_bin (pq_fc 5) 9 (512 * 4) = true := by decide +kernel
set_option maxRecDepth 100000 in
theorem pq_fb_5_5 : pq_bin (pq_fc 5) 9 (512 * 5) = true := by decide +kernel
theorem pq_fk_5 : ∀ k : Nat, k ≤ 5 → pq_bin (pq_fc 5) 9 (512 * k) = true
  | 0, _ => pq_fb_5_0
  | 1, _ => pq_fb_5_1
  | 2, _ => pq_fb_5_2
  | 3, _ => pq_fb_5_3
  | 4, _ => pq_fb_5_4
  | 5, _ => pq_fb_5_5
  | k + 6, h => absurd h (by omega)
set_option maxRecDepth 100000 in
theorem pq_fb_6_0 : pq_bin (pq_fc 6) 9 (512 * 0) = true := by decide +kernel
set_option maxRecDepth 100000 in
theorem pq_fb_6_1 : pq_bin (pq_fc 6) 9 (512 * 1) = true := by decide +kernel
set_option maxRecDepth 100000 in
theorem pq_fb_6_2 : pq_bin (pq_fc 6) 9 (512 * 2) = true := by decide +kernel
set_option maxRecDepth 100000 in
theorem pq_fb_6_3 : pq_bin (pq_fc 6) 9 (512 * 3) = true := by decide +kernel
set_option maxRecDepth 100000 in
theorem pq_fb_6_4 : pq_bin (pq_fc 6) 9 (512 * 4) = true := by decide +kernel
set_option maxRecDepth 100000 in
theorem pq_fb_6_5 : pq_bin (pq_fc 6) 9 (512 * 5) = true := by decide +kernel
set_option maxRecDepth 100000 in
theorem pq_fb_6_6 : pq_bin (pq_fc 6) 9 (512 * 6) = true := by decide +kernel
theorem pq_fk_6 : ∀ k : Nat, k ≤ 6 → pq_bin (pq_fc 6) 9 (512 * k) = true
  | 0, _ => pq_fb_6_0
  | 1, _ => pq_fb_6_1
  | 2, _ => pq_fb_6_2
  | 3, _ => pq_fb_6_3
  | 4, _ => pq_fb_6_4
  | 5, _ => pq_fb_6_5
  | 6, _ => pq_fb_6_6
  | k + 7, h => absurd h (by omega)
set_option maxRecDepth 100000 in
theorem pq_fb_7_0 : pq_bin (pq_fc 7) 9 (512 * 0) = true := by decide +kernel
set_option maxRecDepth 100000 in
theorem pq_fb_7_1 : pq_bin (pq_fc 7) 9 (512 * 1) = true := by decide +kernel
set_option maxRecDepth 100000 in
theorem pq_fb_7_2 : pq_bin (pq_fc 7) 9 (512 * 2) = true := by decide +kernel
set_option maxRecDepth 100000 in
theorem pq_fb_7_3 : pq_bin (pq_fc 7) 9 (512 * 3) = true := by decide +kernel
set_option maxRecDepth 100000 in
theorem pq_fb_7_4 : pq_bin (pq_fc 7) 9 (512 * 4) = true := by decide +kernel
set_option maxRecDepth 100000 in
theorem pq_fb_7_5 : pq_bin (pq_fc 7) 9 (512 * 5) = true := by decide +kernel
set_option maxRecDepth 100000 in
theorem pq_fb_7_6 : pq_bin (pq_fc 7) 9 (512 * 6) = true := by decide +kernel
set_option maxRecDepth 100000 in
theorem pq_fb_7_7 : pq_bin (pq_fc 7) 9 (512 * 7) = true := by decide +kernel
theorem pq_fk_7 : ∀ k : Nat, k ≤ 7 → pq_bin (pq_fc 7) 9 (512 * k) = true
  | 0, _ => pq_fb_7_0
  | 1, _ => pq_fb_7_1
  | 2, _ => pq_fb_7_2
  | 3, _ => pq_fb_7_3
  | 4, _ => pq_fb_7_4
  | 5, _ => pq_fb_7_5
  | 6, _ => pq_fb_7_6
  | 7, _ => pq_fb_7_7
  | k + 8, h => absurd h (by omega)
set_option maxRecDepth 100000 in
theorem pq_fb_8_0 : pq_bin (pq_fc 8) 9 (512 * 0) = true := by decide +kernel
set_option maxRecDepth 100000 in
theorem pq_fb_8_1 : pq_bin (pq_fc 8) 9 (512 * 1) = true := by decide +kernel
set_option maxRecDepth 100000 in
theorem pq_fb_8_2 : pq_bin (pq_fc 8) 9 (512 * 2) = true := by decide +kernel
set_option maxRecDepth 100000 in
theorem pq_fb_8_3 : pq_bin (pq_fc 8) 9 (512 * 3) = true := by decide +kernel
set_option maxRecDepth 100000 in
theorem pq_fb_8_4 : pq_bin (pq_fc 8) 9 (512 * 4) = true := by decide +kernel
set_option maxRecDepth 100000 in
theorem pq_fb_8_5 : pq_bin (pq_fc 8) 9 (512 * 5) = true := by decide +kernel
set_option maxRecDepth 100000 in
theorem pq_fb_8_6 : pq_bin (pq_fc 8) 9 (512 * 6) = true := by decide +kernel
set_option maxRecDepth 100000 in
theorem pq_fb_8_7 : pq_bin (pq_fc 8) 9 (512 * 7) = true := by decide +kernel
set_option maxRecDepth 100000 in
theorem pq_fb_8_8 : pq_bin (pq_fc 8) 9 (512 * 8) = true := by decide +kernel
theorem pq_fk_8 : ∀ k : Nat, k ≤ 8 → pq_bin (pq_fc 8) 9 (512 * k) = true
  | 0, _ => pq_fb_8_0
  | 1, _ => pq_fb_8_1
  | 2, _ => pq_fb_8_2
  | 3, _ => pq_fb_8_3
  | 4, _ => pq_fb_8_4
  | 5, _ => pq_fb_8_5
  | 6, _ => pq_fb_8_6
  | 7, _ => pq_fb_8_7
  | 8, _ => pq_fb_8_8
  | k + 9, h => absurd h (by omega)
set_option maxRecDepth 100000 in
theorem pq_fb_9_0 : pq_bin (pq_fc 9) 9 (512 * 0) = true := by decide +kernel
set_option maxRecDepth 100000 in
theorem pq_fb_9_1 : pq_bin (pq_fc 9) 9 (512 * 1) = true := by decide +kernel
set_option maxRecDepth 100000 in
theorem pq_fb_9_2 : pq_bin (pq_fc 9) 9 (512 * 2) = true := by decide +kernel
set_option maxRecDepth 100000 in
theorem pq_fb_9_3 : pq_bin (pq_fc 9) 9 (512 * 3) = true := by decide +kernel
set_option maxRecDepth 100000 in
theorem pq_fb_9_4 : pq_bin (pq_fc 9) 9 (512 * 4) = true := by decide +kernel
set_option maxRecDepth 100000 in
theorem pq_fb_9_5 : pq_bin (pq_fc 9) 9 (512 * 5) = true := by decide +kernel
set_option maxRecDepth 100000 in
theorem pq_fb_9_6 : pq_bin (pq_fc 9) 9 (512 * 6) = true := by decide +kernel
set_option maxRecDepth 100000 in
theorem pq_fb_9_7 : pq_bin (pq_fc 9) 9 (512 * 7) = true := by decide +kernel
set_option maxRecDepth 100000 in
theorem pq_fb_9_8 : pq_bin (pq_fc 9) 9 (512 * 8) = true := by decide +kernel
set_option maxRecDepth 100000 in
theorem pq_fb_9_9 : pq_bin (pq_fc 9) 9 (512 * 9) = true := by decide +kernel
theorem pq_fk_9 : ∀ k : Nat, k ≤ 9 → pq_bin (pq_fc 9) 9 (512 * k) = true
  | 0, _ => pq_fb_9_0
  | 1, _ => pq_fb_9_1
  | 2, _ => pq_fb_9_2
  | 3, _ => pq_fb_9_3
  | 4, _ => pq_fb_9_4
  | 5, _ => pq_fb_9_5
  | 6, _ => pq_fb_9_6
  | 7, _ => pq_fb_9_7
  | 8, _ => pq_fb_9_8
  | 9, _ => pq_fb_9_9
  | k + 10, h => absurd h (by omega)
set_option maxRecDepth 100000 in
theorem pq_fb_10_0 : pq_bin (pq_fc 10) 9 (512 * 0) = true := by decide +kernel
set_option maxRecDepth 100000 in
theorem pq_fb_10_1 : pq_bin (pq_fc 10) 9 (512 * 1) = true := by decide +kernel
set_option maxRecDepth 100000 in
theorem pq_fb_10_2 : pq_bin (pq_fc 10) 9 (512 * 2) = true := by decide +kernel
set_option maxRecDepth 100000 in
theorem pq_fb_10_3 : pq_bin (pq_fc 10) 9 (512 * 3) = true := by decide +kernel
set_option maxRecDepth 100000 in
theorem pq_fb_10_4 : pq_bin (pq_fc 10) 9 (512 * 4) = true := by decide +kernel
set_option maxRecDepth 100000 in
theorem pq_fb_10_5 : pq_bin (pq_fc 10) 9 (512 * 5) = true := by decide +kernel
set_option maxRecDepth 100000 in
theorem pq_fb_10_6 : pq_bin (pq_fc 10) 9 (512 * 6) = true := by decide +kernel
set_option maxRecDepth 100000 in
theorem pq_fb_10_7 : pq_bin (pq_fc 10) 9 (512 * 7) = true := by decide +kernel
set_option maxRecDepth 100000 in
theorem pq_fb_10_8 : pq_bin (pq_fc 10) 9 (512 * 8) = true := by decide +kernel
set_option maxRecDepth 100000 in
theorem pq_fb_10_9 : pq_bin (pq_fc 10) 9 (512 * 9) = true := by decide +kernel
set_option maxRecDepth 100000 in
theorem pq_fb_10_10 : pq_bin (pq_fc 10) 9 (512 * 10) = true := by decide +kernel
theorem pq_fk_10 : ∀ k : Nat, k ≤ 10 → pq_bin (pq_fc 10) 9 (512 * k) = true
  | 0, _ => pq_fb_10_0
  | 1, _ => pq_fb_10_1
  | 2, _ => pq_fb_10_2
  | 3, _ => pq_fb_10_3
  | 4, _ => pq_fb_10_4
  | 5, _ => pq_fb_10_5
  | 6, _ => pq_fb_10_6
  | 7, _ => pq_fb_10_7
  | 8, _ => pq_fb_10_8
  | 9, _ => pq_fb_10_9
  | 10, _ => pq_fb_10_10
  | k + 11, h => absurd h (by omega)
set_option maxRecDepth 100000 in
theorem pq_fb_11_0 : pq_bin (pq_fc 11) 9 (512 * 0) = true := by decide +kernel
set_option maxRecDepth 100000 in
theorem pq_fb_11_1 : pq_bin (pq_fc 11) 9 (512 * 1) = true := by decide +kernel
set_option maxRecDepth 100000 in
theorem pq_fb_11_2 : pq_bin (pq_fc 11) 9 (512 * 2) = true := by decide +kernel
set_option maxRecDepth 100000 in
theorem pq_fb_11_3 : pq_bin (pq_fc 11) 9 (512 * 3) = true := by decide +kernel
set_option maxRecDepth 100000 in
theorem pq_fb_11_4 : pq_bin (pq_fc 11) 9 (512 * 4) = true := by decide +kernel
set_option maxRecDepth 100000 in
theorem pq_fb_11_5 : pq_bin (pq_fc 11) 9 (512 * 5) = true := by decide +kernel
set_option maxRecDepth 100000 in
theorem pq_fb_11_6 : pq_bin (pq_fc 11) 9 (512 * 6) = true := by decide +kernel
set_option maxRecDepth 100000 in
theorem pq_fb_11_7 : pq_bin (pq_fc 11) 9 (512 * 7) = true := by decide +kernel
set_option maxRecDepth 100000 in
theorem pq_fb_11_8 : pq_bin (pq_fc 11) 9 (512 * 8) = true := by decide +kernel
set_option maxRecDepth 100000 in
theorem pq_fb_11_9 : pq_bin (pq_fc 11) 9 (512 * 9) = true := by decide +kernel
set_option maxRecDepth 100000 in
theorem pq_fb_11_10 : pq_bin (pq_fc 11) 9 (512 * 10) = true := by decide +kernel
set_option maxRecDepth 100000 in
theorem pq_fb_11_11 : pq_bin (pq_fc 11) 9 (512 * 11) = true := by decide +kernel
theorem pq_fk_11 : ∀ k : Nat, k ≤ 11 → pq_bin (pq_fc 11) 9 (512 * k) = true
  | 0, _ => pq_fb_11_0
  | 1, _ => pq_fb_11_1
  | 2, _ => pq_fb_11_2
  | 3, _ => pq_fb_11_3
  | 4, _ => pq_fb_11_4
  | 5, _ => pq_fb_11_5
  | 6, _ => pq_fb_11_6
  | 7, _ => pq_fb_11_7
  | 8, _ => pq_fb_11_8
  | 9, _ => pq_fb_11_9
  | 10, _ => pq_fb_11_10
  | 11, _ => pq_fb_11_11
  | k + 12, h => absurd h (by omega)
theorem pq_fk : ∀ c : Nat, c < 12 → ∀ k : Nat, k ≤ c → pq_bin (pq_fc c) 9 (512 * k) = true
  | 0, _ => pq_fk_0
  | 1, _ => pq_fk_1
  | 2, _ => pq_fk_2
  | 3, _ => pq_fk_3
  | 4, _ => pq_fk_4
  | 5, _ => pq_fk_5
  | 6, _ => pq_fk_6
  | 7, _ => pq_fk_7
  | 8, _ => pq_fk_8
  | 9, _ => pq_fk_9
  | 10, _ => pq_fk_10
  | 11, _ => pq_fk_11
  | c + 12, h => absurd h (by omega)
theorem pq_fc_at {c s : Nat} (hc : c < 12) (hs : s ≤ 500 * (c + 1)) : pq_fc c s = true := by
  have h := pq_bin_at (pq_fk c hc (s / 512) (by omega)) (s % 512) (by omega)
  rwa [show 512 * (s / 512) + s % 512 = s by omega] at h
