/-! p26: the smallest CERTIFICATE of CYCLE, as it is looked for -/
noncomputable def pq_in (T : pq_T) (y : Int) (a : Int) : Nat → Int → Int → Int → Int × Int
  | 0, _, best, most => (best, most)
  | f + 1, b, best, most => if b ≤ y ∧ a + b ≤ most then (if pq_on T (pq_r T (a + b - 1).toNat) then (if pb (pq_rep T a.toNat b.toNat) = 1 then pq_in T y a f (b + 1) (200 * a + b) (a + b - 1) else pq_in T y a f (b + 1) best most) else (best, most)) else (best, most)
noncomputable def pq_ou (T : pq_T) (y : Int) : Nat → Int → Int → Int → Int
  | 0, _, best, _ => best
  | f + 1, a, best, most => if a < y ∧ a < most then (if pq_d (pq_r T a.toNat) = a then pq_ou T y f (a + 1) (pq_in T y a 41 1 best most).1 (pq_in T y a 41 1 best most).2 else best) else best
noncomputable def pq_sc (T : pq_T) (y : Int) : Int := pq_ou T y 41 0 (-1) y
/-- a code that is none, or is a certificate's -/
def pq_sg (T : pq_T) (best : Int) : Prop := best = -1 ∨ ∃ a b : Int, best = 200 * a + b ∧ (0 ≤ a ∧ a ≤ 40) ∧ (1 ≤ b ∧ b ≤ 40) ∧ pq_cyc T a.toNat b.toNat
theorem pq_in_sg {T : pq_T} {y a : Int} (hy : y ≤ 40) (ha : 0 ≤ a ∧ a ≤ 40) : ∀ (f : Nat) (b best most : Int), 1 ≤ b → (∀ i : Nat, (i : Int) < a + b - 1 → pq_on T (pq_r T i)) → pq_sg T best → pq_sg T (pq_in T y a f b best most).1
  | 0, _, _, _, _, _, h => h
  | f + 1, b, best, most, hb, hon, h => by
    unfold pq_in
    by_cases h1 : b ≤ y ∧ a + b ≤ most
    · rw [if_pos h1]
      by_cases h2 : pq_on T (pq_r T (a + b - 1).toNat)
      · rw [if_pos h2]
        have hon2 : ∀ i : Nat, (i : Int) < a + (b + 1) - 1 → pq_on T (pq_r T i) := fun i hi => by
          by_cases e : (i : Int) = a + b - 1
          · rw [show i = (a + b - 1).toNat by omega]; exact h2
          · exact hon i (by omega)
        by_cases h3 : pb (pq_rep T a.toNat b.toNat) = 1
        · rw [if_pos h3]
          exact pq_in_sg hy ha f (b + 1) _ _ (by omega) hon2 (Or.inr ⟨a, b, rfl, ha, by omega, fun i hi => hon2 i (by omega), pb_1 h3⟩)
        · rw [if_neg h3]
          exact pq_in_sg hy ha f (b + 1) _ _ (by omega) hon2 h
      · rw [if_neg h2]; exact h
    · rw [if_neg h1]; exact h
theorem pq_ou_sg {T : pq_T} {y : Int} (hy : y ≤ 40) : ∀ (f : Nat) (a best most : Int), 0 ≤ a → pq_sg T best → pq_sg T (pq_ou T y f a best most)
  | 0, _, _, _, _, h => h
  | f + 1, a, best, most, ha, h => by
    unfold pq_ou
    by_cases h1 : a < y ∧ a < most
    · rw [if_pos h1]
      by_cases h2 : pq_d (pq_r T a.toNat) = a
      · rw [if_pos h2]
        exact pq_ou_sg hy f (a + 1) _ _ (by omega) (pq_in_sg hy ⟨ha, by omega⟩ 41 1 best most (Int.le_refl 1) (fun i hi => pq_d_on (k := a.toNat) (by omega) i (by omega)) h)
      · rw [if_neg h2]; exact h
    · rw [if_neg h1]; exact h
theorem pq_sc_sg {T : pq_T} {y : Int} (hy : y ≤ 40) : pq_sg T (pq_sc T y) := pq_ou_sg hy 41 0 (-1) y (Int.le_refl 0) (Or.inl rfl)
/-! steps of the two loops -/
theorem pq_in_stop {T : pq_T} {y a : Int} {f : Nat} {b best most : Int} (h : ¬ (b ≤ y ∧ a + b ≤ most)) : pq_in T y a f b best most = (best, most) := by
  cases f with
  | zero => rfl
  | succ f => unfold pq_in; rw [if_neg h]
theorem pq_in_off {T : pq_T} {y a : Int} {f : Nat} {b best most : Int} (h : ¬ pq_on T (pq_r T (a + b - 1).toNat)) : pq_in T y a f b best most = (best, most) := by
  cases f with
  | zero => rfl
  | succ f =>
    unfold pq_in
    by_cases h1 : b ≤ y ∧ a + b ≤ most
    · rw [if_pos h1, if_neg h]
    · rw [if_neg h1]
theorem pq_in_yes {T : pq_T} {y a : Int} {f : Nat} {b best most : Int} (h1 : b ≤ y ∧ a + b ≤ most) (h2 : pq_on T (pq_r T (a + b - 1).toNat)) (h3 : pq_rep T a.toNat b.toNat) : pq_in T y a (f + 1) b best most = pq_in T y a f (b + 1) (200 * a + b) (a + b - 1) := by
  rw [show pq_in T y a (f + 1) b best most = _ from rfl]
  conv => lhs; unfold pq_in
  rw [if_pos h1, if_pos h2, if_pos (pb_t h3)]
theorem pq_in_no {T : pq_T} {y a : Int} {f : Nat} {b best most : Int} (h1 : b ≤ y ∧ a + b ≤ most) (h2 : pq_on T (pq_r T (a + b - 1).toNat)) (h3 : ¬ pq_rep T a.toNat b.toNat) : pq_in T y a (f + 1) b best most = pq_in T y a f (b + 1) best most := by
  conv => lhs; unfold pq_in
  rw [if_pos h1, if_pos h2, if_neg (by rw [pb_f h3]; decide)]
theorem pq_ou_stop {T : pq_T} {y : Int} {f : Nat} {a best most : Int} (h : ¬ (a < y ∧ a < most)) : pq_ou T y f a best most = best := by
  cases f with
  | zero => rfl
  | succ f => unfold pq_ou; rw [if_neg h]
theorem pq_ou_off {T : pq_T} {y : Int} {f : Nat} {a best most : Int} (h : ¬ pq_d (pq_r T a.toNat) = a) : pq_ou T y f a best most = best := by
  cases f with
  | zero => rfl
  | succ f =>
    unfold pq_ou
    by_cases h1 : a < y ∧ a < most
    · rw [if_pos h1, if_neg h]
    · rw [if_neg h1]
theorem pq_ou_on {T : pq_T} {y : Int} {f : Nat} {a best most : Int} (h1 : a < y ∧ a < most) (h : pq_d (pq_r T a.toNat) = a) : pq_ou T y (f + 1) a best most = pq_ou T y f (a + 1) (pq_in T y a 41 1 best most).1 (pq_in T y a 41 1 best most).2 := by
  conv => lhs; unfold pq_ou
  rw [if_pos h1, if_pos h]
/-- the certificate once more, as it is checked -/
theorem pq_cyc_iff {T : pq_T} {a b : Nat} (h : ∀ i, i < a + b → pq_on T (pq_r T i)) : pq_cyc T a b ↔ pq_rep T a b := ⟨fun q => q.2, fun q => ⟨h, q⟩⟩
theorem pq_lohi_rg {T : pq_T} (hT : pq_ok T) (a : Nat) : ∀ b : Nat, a + b ≤ 501 → (-501 ≤ pq_lo T a b ∧ pq_lo T a b ≤ 501) ∧ (-501 ≤ pq_hi T a b ∧ pq_hi T a b ≤ 501)
  | 0, h => by
    have h1 := pq_rg hT (k := a) (by omega)
    have e1 : pq_lo T a 0 = pq_p (pq_r T a) := rfl
    have e2 : pq_hi T a 0 = pq_p (pq_r T a) := rfl
    omega
  | b + 1, h => by
    have h1 := pq_rg hT (k := a + b + 1) (by omega)
    have h2 := pq_lohi_rg hT a b (by omega)
    have e1 : pq_lo T a (b + 1) = min (pq_lo T a b) (pq_p (pq_r T (a + b + 1))) := rfl
    have e2 : pq_hi T a (b + 1) = max (pq_hi T a b) (pq_p (pq_r T (a + b + 1))) := rfl
    omega
