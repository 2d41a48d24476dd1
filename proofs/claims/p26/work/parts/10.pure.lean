/-! p26, the pure part, 1: a table, a walk over a tape. -/
/-- a table: its states, what each cell writes, moves, and its next state -/
abbrev pq_T : Type := Int × (Nat → Int) × (Nat → Int) × (Nat → Int)
def pq_n (T : pq_T) : Int := T.1
def pq_w (T : pq_T) : Nat → Int := T.2.1
def pq_v (T : pq_T) : Nat → Int := T.2.2.1
def pq_x (T : pq_T) : Nat → Int := T.2.2.2
/-- how a machine stands: state, place, tape, steps done, least and greatest place visited -/
abbrev pq_C : Type := Int × Int × (Int → Int) × Int × Int × Int
def pq_q (C : pq_C) : Int := C.1
def pq_p (C : pq_C) : Int := C.2.1
def pq_t (C : pq_C) : Int → Int := C.2.2.1
def pq_d (C : pq_C) : Int := C.2.2.2.1
def pq_l (C : pq_C) : Int := C.2.2.2.2.1
def pq_g (C : pq_C) : Int := C.2.2.2.2.2
def pq_ok (T : pq_T) : Prop := (2 ≤ pq_n T ∧ pq_n T ≤ 4) ∧ ∀ c : Nat, c < 8 → (pq_w T c = -1 ∨ ((pq_w T c = 0 ∨ pq_w T c = 1) ∧ (pq_v T c = 1 ∨ pq_v T c = -1) ∧ 0 ≤ pq_x T c ∧ pq_x T c ≤ pq_n T)) ∧ (2 * pq_n T ≤ (c : Int) → pq_w T c = -1)
/-- the cell of this number is empty -/
abbrev pq_E (T : pq_T) (c : Int) : Prop := c < 0 ∨ 8 ≤ c ∨ pq_w T c.toNat = -1
/-- ... or its next is a stop -/
abbrev pq_F (T : pq_T) (c : Int) : Prop := pq_E T c ∨ pq_n T ≤ pq_x T c.toNat
/-- the cell that is met -/
def pq_m (C : pq_C) : Int := 2 * pq_q C + pq_t C (pq_p C)
def pq_c (C : pq_C) : Nat := (pq_m C).toNat
abbrev pq_on (T : pq_T) (C : pq_C) : Prop := pq_q C < pq_n T ∧ ¬ pq_E T (pq_m C)
def pq_up (f : Int → Int) (p y : Int) : Int → Int := fun z => if z = p then y else f z
def pq_go (T : pq_T) (C : pq_C) : pq_C := (pq_x T (pq_c C), pq_p C + pq_v T (pq_c C), pq_up (pq_t C) (pq_p C) (pq_w T (pq_c C)), pq_d C + 1, min (pq_l C) (pq_p C + pq_v T (pq_c C)), max (pq_g C) (pq_p C + pq_v T (pq_c C)))
def pq_nx (T : pq_T) (C : pq_C) : pq_C := if pq_on T C then pq_go T C else C
def pq_0 : pq_C := (0, 0, fun _ => 0, 0, 0, 0)
def pq_r (T : pq_T) : Nat → pq_C
  | 0 => pq_0
  | k + 1 => pq_nx T (pq_r T k)
theorem pq_up_self (f : Int → Int) (p y : Int) : pq_up f p y p = y := by simp [pq_up]
theorem pq_up_ne (f : Int → Int) {p z : Int} (y : Int) (h : z ≠ p) : pq_up f p y z = f z := by simp [pq_up, h]
theorem pq_nx_on {T : pq_T} {C : pq_C} (h : pq_on T C) : pq_nx T C = pq_go T C := if_pos h
theorem pq_nx_off {T : pq_T} {C : pq_C} (h : ¬ pq_on T C) : pq_nx T C = C := if_neg h
theorem pq_q_go (T : pq_T) (C : pq_C) : pq_q (pq_go T C) = pq_x T (pq_c C) := rfl
theorem pq_p_go (T : pq_T) (C : pq_C) : pq_p (pq_go T C) = pq_p C + pq_v T (pq_c C) := rfl
theorem pq_t_go (T : pq_T) (C : pq_C) : pq_t (pq_go T C) = pq_up (pq_t C) (pq_p C) (pq_w T (pq_c C)) := rfl
theorem pq_d_go (T : pq_T) (C : pq_C) : pq_d (pq_go T C) = pq_d C + 1 := rfl
theorem pq_l_go (T : pq_T) (C : pq_C) : pq_l (pq_go T C) = min (pq_l C) (pq_p C + pq_v T (pq_c C)) := rfl
theorem pq_g_go (T : pq_T) (C : pq_C) : pq_g (pq_go T C) = max (pq_g C) (pq_p C + pq_v T (pq_c C)) := rfl
/-- what is always so of a walk -/
def pq_wf (T : pq_T) (C : pq_C) : Prop := (0 ≤ pq_q C ∧ pq_q C ≤ pq_n T) ∧ (∀ z, pq_t C z = 0 ∨ pq_t C z = 1) ∧ (∀ z, z < pq_l C ∨ pq_g C < z → pq_t C z = 0) ∧ (pq_l C ≤ pq_p C ∧ pq_p C ≤ pq_g C) ∧ (pq_l C ≤ 0 ∧ 0 ≤ pq_g C) ∧ 0 ≤ pq_d C ∧ pq_g C - pq_l C ≤ pq_d C
theorem pq_wf_0 {T : pq_T} (hT : pq_ok T) : pq_wf T pq_0 := by
  have h := hT.1
  refine ⟨⟨Int.le_refl 0, ?_⟩, fun _ => Or.inl rfl, fun _ _ => rfl, ⟨Int.le_refl 0, Int.le_refl 0⟩, ⟨Int.le_refl 0, Int.le_refl 0⟩, Int.le_refl 0, Int.le_refl 0⟩
  show (0 : Int) ≤ pq_n T
  omega
/-- what the cell that is met holds, if the machine goes on -/
theorem pq_at {T : pq_T} {C : pq_C} (hT : pq_ok T) (h : pq_on T C) : pq_c C < 8 ∧ (pq_c C : Int) = pq_m C ∧ pq_m C < 2 * pq_n T ∧ (pq_w T (pq_c C) = 0 ∨ pq_w T (pq_c C) = 1) ∧ (pq_v T (pq_c C) = 1 ∨ pq_v T (pq_c C) = -1) ∧ 0 ≤ pq_x T (pq_c C) ∧ pq_x T (pq_c C) ≤ pq_n T := by
  obtain ⟨-, h2⟩ := h
  have h3 : 0 ≤ pq_m C ∧ pq_m C < 8 ∧ pq_w T (pq_c C) ≠ -1 := ⟨Int.not_lt.mp (fun q => h2 (Or.inl q)), Int.not_le.mp (fun q => h2 (Or.inr (Or.inl q))), fun q => h2 (Or.inr (Or.inr q))⟩
  obtain ⟨h4, h5, h6⟩ := h3
  have h7 : (pq_c C : Int) = pq_m C := Int.toNat_of_nonneg h4
  have h8 : pq_c C < 8 := by omega
  obtain ⟨g1, g2⟩ := hT.2 (pq_c C) h8
  rcases g1 with g1 | ⟨g1, g3, g4, g5⟩
  · exact absurd g1 h6
  · exact ⟨h8, h7, Int.not_le.mp (fun q => h6 (g2 (by omega))), g1, g3, g4, g5⟩
theorem pq_wf_go {T : pq_T} {C : pq_C} (hT : pq_ok T) (hC : pq_wf T C) (h : pq_on T C) : pq_wf T (pq_go T C) := by
  obtain ⟨-, -, -, a1, a2, a3, a4⟩ := pq_at hT h
  obtain ⟨⟨b1, b2⟩, b3, b4, ⟨b5, b6⟩, ⟨b7, b8⟩, b9, b10⟩ := hC
  refine ⟨⟨a3, a4⟩, fun z => ?_, fun z hz => ?_, ?_, ?_, ?_, ?_⟩
  · rw [pq_t_go]
    by_cases e : z = pq_p C
    · rw [e, pq_up_self]; exact a1
    · rw [pq_up_ne _ _ e]; exact b3 z
  · rw [pq_l_go, pq_g_go] at hz
    rw [pq_t_go, pq_up_ne _ _ (by omega)]
    exact b4 z (by omega)
  · rw [pq_l_go, pq_g_go, pq_p_go]; omega
  · rw [pq_l_go, pq_g_go]; omega
  · rw [pq_d_go]; omega
  · rw [pq_l_go, pq_g_go, pq_d_go]; omega
theorem pq_wf_nx {T : pq_T} {C : pq_C} (hT : pq_ok T) (hC : pq_wf T C) : pq_wf T (pq_nx T C) := by
  by_cases h : pq_on T C
  · rw [pq_nx_on h]; exact pq_wf_go hT hC h
  · rw [pq_nx_off h]; exact hC
theorem pq_wf_r {T : pq_T} (hT : pq_ok T) : ∀ k, pq_wf T (pq_r T k)
  | 0 => pq_wf_0 hT
  | k + 1 => pq_wf_nx hT (pq_wf_r hT k)
theorem pq_r_on {T : pq_T} {k : Nat} (h : pq_on T (pq_r T k)) : pq_r T (k + 1) = pq_go T (pq_r T k) := pq_nx_on h
theorem pq_r_off {T : pq_T} {k : Nat} (h : ¬ pq_on T (pq_r T k)) : ∀ j, pq_r T (k + j) = pq_r T k
  | 0 => rfl
  | j + 1 => by
    have e : pq_r T (k + j) = pq_r T k := pq_r_off h j
    show pq_nx T (pq_r T (k + j)) = pq_r T k
    rw [e, pq_nx_off h]
theorem pq_r_stay {T : pq_T} {k j : Nat} (h : ¬ pq_on T (pq_r T k)) (hj : k ≤ j) : pq_r T j = pq_r T k := by
  have := pq_r_off h (j - k)
  rwa [show k + (j - k) = j by omega] at this
theorem pq_d_le (T : pq_T) : ∀ k : Nat, pq_d (pq_r T k) ≤ k
  | 0 => Int.le_refl 0
  | k + 1 => by
    have h0 := pq_d_le T k
    by_cases h : pq_on T (pq_r T k)
    · rw [pq_r_on h, pq_d_go]; omega
    · rw [show pq_r T (k + 1) = pq_r T k from pq_nx_off h]; omega
theorem pq_d_on {T : pq_T} : ∀ {k : Nat}, pq_d (pq_r T k) = k → ∀ i, i < k → pq_on T (pq_r T i)
  | 0, _, i, hi => absurd hi (Nat.not_lt_zero i)
  | k + 1, h, i, hi => by
    have h0 := pq_d_le T k
    by_cases hk : pq_on T (pq_r T k)
    · rw [pq_r_on hk, pq_d_go] at h
      rcases Nat.lt_or_ge i k with q | q
      · exact pq_d_on (k := k) (by omega) i q
      · rw [show i = k by omega]; exact hk
    · rw [show pq_r T (k + 1) = pq_r T k from pq_nx_off hk] at h
      omega
theorem pq_on_d {T : pq_T} : ∀ {k : Nat}, (∀ i, i < k → pq_on T (pq_r T i)) → pq_d (pq_r T k) = k
  | 0, _ => rfl
  | k + 1, h => by
    have h0 := pq_on_d (k := k) (fun i hi => h i (by omega))
    rw [pq_r_on (h k (by omega)), pq_d_go, h0]
    omega
theorem pq_l_mono (T : pq_T) (k : Nat) : pq_l (pq_r T (k + 1)) ≤ pq_l (pq_r T k) ∧ pq_g (pq_r T k) ≤ pq_g (pq_r T (k + 1)) := by
  by_cases h : pq_on T (pq_r T k)
  · rw [pq_r_on h, pq_l_go, pq_g_go]; omega
  · rw [show pq_r T (k + 1) = pq_r T k from pq_nx_off h]; omega
theorem pq_lg_mono (T : pq_T) (k : Nat) : ∀ j : Nat, pq_l (pq_r T (k + j)) ≤ pq_l (pq_r T k) ∧ pq_g (pq_r T k) ≤ pq_g (pq_r T (k + j))
  | 0 => ⟨Int.le_refl _, Int.le_refl _⟩
  | j + 1 => by
    have h0 := pq_lg_mono T k j
    have h1 := pq_l_mono T (k + j)
    rw [show k + (j + 1) = k + j + 1 from rfl]
    omega
/-- who has stopped, or hangs, behind a number of steps, does so behind every greater one: its steps are fewer -/
theorem pq_all {T : pq_T} {k : Nat} (h : pq_on T (pq_r T k)) : ∀ i, i ≤ k → pq_on T (pq_r T i) := by
  intro i hi
  by_cases q : pq_on T (pq_r T i)
  · exact q
  · rw [pq_r_stay q hi] at h
    exact absurd h q
/-! CYCLE -/
/-- one stands as the other, moved by s, on the places of P -/
def pq_sim (C C' : pq_C) (s : Int) (P : Int → Prop) : Prop := pq_q C' = pq_q C ∧ pq_p C' = pq_p C + s ∧ ∀ z, P z → pq_t C' (z + s) = pq_t C z
theorem pq_sim_go {T : pq_T} {C C' : pq_C} {s : Int} {P : Int → Prop} (h : pq_sim C C' s P) (hp : P (pq_p C)) (ho : pq_on T C) : pq_on T C' ∧ pq_sim (pq_go T C) (pq_go T C') s P := by
  obtain ⟨h1, h2, h3⟩ := h
  have hm : pq_m C' = pq_m C := by
    unfold pq_m
    rw [h1, h2, h3 _ hp]
  have hc : pq_c C' = pq_c C := by unfold pq_c; rw [hm]
  refine ⟨?_, ?_, ?_, fun z hz => ?_⟩
  · show pq_q C' < pq_n T ∧ ¬ pq_E T (pq_m C')
    rw [h1, hm]
    exact ho
  · rw [pq_q_go, pq_q_go, hc]
  · rw [pq_p_go, pq_p_go, hc, h2]
    omega
  · rw [pq_t_go, pq_t_go, hc, h2]
    by_cases e : z = pq_p C
    · rw [e, pq_up_self, pq_up_self]
    · rw [pq_up_ne _ _ e, pq_up_ne _ _ (by omega)]
      exact h3 z hz
theorem pq_cycle_gen {T : pq_T} {a b : Nat} {s : Int} {P : Int → Prop} (hP : ∀ z, P z → P (z + s)) (hb : 0 < b) (hon : ∀ i, i < b → pq_on T (pq_r T (a + i)) ∧ P (pq_p (pq_r T (a + i)))) (h0 : pq_sim (pq_r T a) (pq_r T (a + b)) s P) :
    ∀ i, (pq_on T (pq_r T (a + i)) ∧ P (pq_p (pq_r T (a + i)))) ∧ pq_sim (pq_r T (a + i)) (pq_r T (a + i + b)) s P := by
  intro i
  induction i using Nat.strongRecOn with
  | ind i ih =>
    refine ⟨?_, ?_⟩
    · rcases Nat.lt_or_ge i b with q | q
      · exact hon i q
      · obtain ⟨⟨h1, h2⟩, h3⟩ := ih (i - b) (by omega)
        have h4 := pq_sim_go h3 h2 h1
        have e : a + (i - b) + b = a + i := by omega
        rw [e] at h4 h3
        exact ⟨h4.1, by rw [h3.2.1]; exact hP _ h2⟩
    · cases i with
      | zero => exact h0
      | succ j =>
        obtain ⟨⟨h1, h2⟩, h3⟩ := ih j (by omega)
        have h4 := pq_sim_go h3 h2 h1
        have e : a + (j + 1) + b = (a + j + b) + 1 := by omega
        rw [e, pq_r_on h4.1, show a + (j + 1) = (a + j) + 1 from rfl, pq_r_on h1]
        exact h4.2
/-- the least and the greatest place from a on, i steps long -/
def pq_lo (T : pq_T) (a : Nat) : Nat → Int
  | 0 => pq_p (pq_r T a)
  | i + 1 => min (pq_lo T a i) (pq_p (pq_r T (a + i + 1)))
def pq_hi (T : pq_T) (a : Nat) : Nat → Int
  | 0 => pq_p (pq_r T a)
  | i + 1 => max (pq_hi T a i) (pq_p (pq_r T (a + i + 1)))
theorem pq_lohi (T : pq_T) (a : Nat) : ∀ b i : Nat, i ≤ b → pq_lo T a b ≤ pq_p (pq_r T (a + i)) ∧ pq_p (pq_r T (a + i)) ≤ pq_hi T a b
  | 0, i, hi => by
    rw [show i = 0 by omega]
    exact ⟨Int.le_refl _, Int.le_refl _⟩
  | b + 1, i, hi => by
    have h1 : pq_lo T a (b + 1) = min (pq_lo T a b) (pq_p (pq_r T (a + b + 1))) := rfl
    have h2 : pq_hi T a (b + 1) = max (pq_hi T a b) (pq_p (pq_r T (a + b + 1))) := rfl
    rw [h1, h2]
    rcases Nat.lt_or_ge i (b + 1) with q | q
    · have := pq_lohi T a b i (by omega)
      omega
    · rw [show a + i = a + b + 1 by omega]
      omega
def pq_s (T : pq_T) (a b : Nat) : Int := pq_p (pq_r T (a + b)) - pq_p (pq_r T a)
def pq_fr (T : pq_T) (a b : Nat) : Int := if 0 < pq_s T a b then pq_lo T a b else pq_l (pq_r T (a + b))
def pq_to (T : pq_T) (a b : Nat) : Int := if pq_s T a b < 0 then pq_hi T a b else pq_g (pq_r T (a + b))
/-- what the check of repeats looks at -/
def pq_rep (T : pq_T) (a b : Nat) : Prop := pq_q (pq_r T a) = pq_q (pq_r T (a + b)) ∧ ∀ z, pq_fr T a b ≤ z → z ≤ pq_to T a b → pq_t (pq_r T a) z = pq_t (pq_r T (a + b)) (z + pq_s T a b)
/-- the certificate of CYCLE -/
def pq_cyc (T : pq_T) (a b : Nat) : Prop := (∀ i, i < a + b → pq_on T (pq_r T i)) ∧ pq_rep T a b
theorem pq_cyc_sound {T : pq_T} (hT : pq_ok T) {a b : Nat} (hb : 0 < b) (h : pq_cyc T a b) : ∀ k, pq_on T (pq_r T k) := by
  obtain ⟨h1, h2, h3⟩ := h
  obtain ⟨-, -, zA, -⟩ := pq_wf_r hT a
  obtain ⟨-, -, zB, -⟩ := pq_wf_r hT (a + b)
  have hm := pq_lg_mono T a b
  have key : ∀ k, pq_on T (pq_r T (a + k)) := by
    rcases Int.lt_or_le (pq_s T a b) 0 with hs | hs
    · have e1 : pq_fr T a b = pq_l (pq_r T (a + b)) := if_neg (by omega)
      have e2 : pq_to T a b = pq_hi T a b := if_pos hs
      rw [e1, e2] at h3
      have hg := pq_cycle_gen (T := T) (a := a) (b := b) (s := pq_s T a b) (P := fun z => z ≤ pq_hi T a b) (fun z hz => by show z + _ ≤ _; have : z ≤ pq_hi T a b := hz; omega) hb (fun i hi => ⟨h1 _ (by omega), (pq_lohi T a b i (by omega)).2⟩) ⟨h2.symm, by unfold pq_s; omega, fun z hz => by
        have hz : z ≤ pq_hi T a b := hz
        rcases Int.lt_or_le z (pq_l (pq_r T (a + b))) with q | q
        · rw [zA z (Or.inl (by omega)), zB _ (Or.inl (by omega))]
        · exact (h3 z q hz).symm⟩
      exact fun k => (hg k).1.1
    · have e2 : pq_to T a b = pq_g (pq_r T (a + b)) := if_neg (by omega)
      have hfr : ∀ z, pq_lo T a b ≤ z → z ≤ pq_g (pq_r T (a + b)) → pq_t (pq_r T a) z = pq_t (pq_r T (a + b)) (z + pq_s T a b) := by
        intro z q1 q2
        by_cases hz : 0 < pq_s T a b
        · exact h3 z (by rw [show pq_fr T a b = pq_lo T a b from if_pos hz]; exact q1) (by rw [e2]; exact q2)
        · have e1 : pq_fr T a b = pq_l (pq_r T (a + b)) := if_neg hz
          rcases Int.lt_or_le z (pq_l (pq_r T (a + b))) with q | q
          · rw [zA z (Or.inl (by omega)), zB _ (Or.inl (by omega))]
          · exact h3 z (by rw [e1]; exact q) (by rw [e2]; exact q2)
      have hg := pq_cycle_gen (T := T) (a := a) (b := b) (s := pq_s T a b) (P := fun z => pq_lo T a b ≤ z) (fun z hz => by show _ ≤ z + _; have : pq_lo T a b ≤ z := hz; omega) hb (fun i hi => ⟨h1 _ (by omega), (pq_lohi T a b i (by omega)).1⟩) ⟨h2.symm, by unfold pq_s; omega, fun z hz => by
        have hz : pq_lo T a b ≤ z := hz
        rcases Int.lt_or_le (pq_g (pq_r T (a + b))) z with q | q
        · rw [zA z (Or.inr (by omega)), zB _ (Or.inr (by omega))]
        · exact (hfr z hz q).symm⟩
      exact fun k => (hg k).1.1
  intro k
  rcases Nat.lt_or_ge k a with q | q
  · exact pq_all (key 0) k (by omega)
  · have := key (k - a)
    rwa [show a + (k - a) = k by omega] at this
/-- a row of whole numbers with one changed -/
def pz_u (g : Nat → Int) (k : Nat) (y : Int) : Nat → Int := fun j => if j = k then y else g j
