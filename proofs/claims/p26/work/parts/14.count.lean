/-! p26, the pure part, 4: ones, runs, eighths; empty cells and ways; certificates. -/
def pq_sum (t : Int → Int) (a : Int) : Nat → Int
  | 0 => 0
  | n + 1 => pq_sum t a n + t (a + n)
theorem pq_sum_app (t : Int → Int) (a : Int) (m : Nat) : ∀ n : Nat, pq_sum t a (m + n) = pq_sum t a m + pq_sum t (a + m) n
  | 0 => by simp [pq_sum]
  | n + 1 => by
    show pq_sum t a (m + n) + t (a + ((m + n : Nat) : Int)) = pq_sum t a m + (pq_sum t (a + m) n + t (a + m + n))
    rw [pq_sum_app t a m n, show a + ((m + n : Nat) : Int) = a + m + n by omega]
    omega
theorem pq_sum_zero {t : Int → Int} {a : Int} : ∀ n : Nat, (∀ z, a ≤ z → z < a + n → t z = 0) → pq_sum t a n = 0
  | 0, _ => rfl
  | n + 1, h => by
    show pq_sum t a n + t (a + n) = 0
    rw [pq_sum_zero n (fun z h1 h2 => h z h1 (by omega)), h (a + n) (by omega) (by omega)]
    rfl
theorem pq_sum_bd {t : Int → Int} (ht : ∀ z, t z = 0 ∨ t z = 1) (a : Int) : ∀ n : Nat, 0 ≤ pq_sum t a n ∧ pq_sum t a n ≤ n
  | 0 => ⟨Int.le_refl 0, Int.le_refl 0⟩
  | n + 1 => by
    have h1 := pq_sum_bd ht a n
    have h2 := ht (a + n)
    have e : pq_sum t a (n + 1) = pq_sum t a n + t (a + n) := rfl
    rw [e]
    omega
theorem pq_sum_out (t : Int → Int) {p y a : Int} : ∀ n : Nat, p < a ∨ a + n ≤ p → pq_sum (pq_up t p y) a n = pq_sum t a n
  | 0, _ => rfl
  | n + 1, h => by
    show pq_sum (pq_up t p y) a n + pq_up t p y (a + n) = pq_sum t a n + t (a + n)
    rw [pq_sum_out t n (by omega), pq_up_ne _ _ (by omega)]
theorem pq_sum_in (t : Int → Int) {p y a : Int} : ∀ n : Nat, a ≤ p → p < a + n → pq_sum (pq_up t p y) a n = pq_sum t a n + y - t p
  | 0, h1, h2 => by omega
  | n + 1, h1, h2 => by
    show pq_sum (pq_up t p y) a n + pq_up t p y (a + n) = pq_sum t a n + t (a + n) + y - t p
    by_cases e : p = a + n
    · subst e
      rw [pq_sum_out t n (by omega), pq_up_self]
      omega
    · rw [pq_sum_in t n h1 (by omega), pq_up_ne _ _ (by omega)]
      omega
/-- a row with zeros around it -/
theorem pq_sum_wide {t : Int → Int} {l g l2 g2 : Int} (h1 : l2 ≤ l) (h2 : g ≤ g2) (h3 : l ≤ g + 1) (hz : ∀ z, z < l ∨ g < z → t z = 0) : pq_sum t l2 (g2 - l2 + 1).toNat = pq_sum t l (g - l + 1).toNat := by
  have e : (g2 - l2 + 1).toNat = (l - l2).toNat + ((g - l + 1).toNat + (g2 - g).toNat) := by omega
  rw [e, pq_sum_app, pq_sum_app, pq_sum_zero (l - l2).toNat (fun z q1 q2 => hz z (Or.inl (by omega))), show l2 + ((l - l2).toNat : Int) = l by omega, pq_sum_zero (g2 - g).toNat (fun z q1 q2 => hz z (Or.inr (by omega)))]
  omega
/-- the ONES -/
def pq_ones (C : pq_C) : Int := pq_sum (pq_t C) (pq_l C) (pq_g C - pq_l C + 1).toNat
theorem pq_ones_bd {T : pq_T} {C : pq_C} (hC : pq_wf T C) : 0 ≤ pq_ones C ∧ pq_ones C ≤ pq_g C - pq_l C + 1 := by
  have h := pq_sum_bd hC.2.1 (pq_l C) (pq_g C - pq_l C + 1).toNat
  have h2 := hC.2.2.2.1
  unfold pq_ones
  omega
theorem pq_ones_go {T : pq_T} {C : pq_C} (hT : pq_ok T) (hC : pq_wf T C) (ho : pq_on T C) : pq_ones (pq_go T C) = pq_ones C + pq_w T (pq_c C) - pq_t C (pq_p C) := by
  obtain ⟨-, -, hz, hp, -⟩ := id hC
  unfold pq_ones
  have e1 : pq_l (pq_go T C) ≤ pq_l C := by rw [pq_l_go]; omega
  have e2 : pq_g C ≤ pq_g (pq_go T C) := by rw [pq_g_go]; omega
  rw [← pq_sum_wide (l2 := pq_l (pq_go T C)) (g2 := pq_g (pq_go T C)) e1 e2 (by omega) hz, pq_t_go, pq_sum_in _ _ (by omega) (by omega)]
theorem pq_ones_0 : pq_ones pq_0 = 0 := by
  unfold pq_ones
  exact pq_sum_zero _ (fun _ _ _ => rfl)
theorem pq_ones_d {T : pq_T} (hT : pq_ok T) : ∀ k : Nat, pq_ones (pq_r T k) ≤ pq_d (pq_r T k)
  | 0 => by
    show pq_ones pq_0 ≤ pq_d pq_0
    rw [pq_ones_0]
    exact Int.le_refl 0
  | k + 1 => by
    have h := pq_ones_d hT k
    by_cases ho : pq_on T (pq_r T k)
    · rw [pq_r_on ho, pq_ones_go hT (pq_wf_r hT k) ho, pq_d_go]
      have h1 := (pq_at hT ho).2.2.2.1
      have h2 := (pq_wf_r hT k).2.1 (pq_p (pq_r T k))
      omega
    · rw [show pq_r T (k + 1) = pq_r T k from pq_nx_off ho]
      exact h
/-- the RUNS: changes between a and a + n, and one more -/
def pq_chg (t : Int → Int) (a : Int) : Nat → Int
  | 0 => 1
  | n + 1 => pq_chg t a n + (if t (a + (n + 1 : Nat)) = t (a + (n + 1 : Nat) - 1) then 0 else 1)
theorem pq_chg_bd (t : Int → Int) (a : Int) : ∀ n : Nat, 1 ≤ pq_chg t a n ∧ pq_chg t a n ≤ n + 1
  | 0 => ⟨Int.le_refl 1, Int.le_refl 1⟩
  | n + 1 => by
    have h := pq_chg_bd t a n
    unfold pq_chg
    by_cases e : t (a + (n + 1 : Nat)) = t (a + (n + 1 : Nat) - 1)
    · rw [if_pos e]; omega
    · rw [if_neg e]; omega
def pq_runs (C : pq_C) : Int := pq_chg (pq_t C) (pq_l C) (pq_g C - pq_l C).toNat
theorem pq_runs_bd {T : pq_T} {C : pq_C} (hC : pq_wf T C) : 1 ≤ pq_runs C ∧ pq_runs C ≤ pq_g C - pq_l C + 1 := by
  have h := pq_chg_bd (pq_t C) (pq_l C) (pq_g C - pq_l C).toNat
  have h2 := hC.2.2.2.1
  unfold pq_runs
  omega
/-! empty cells, ways -/
def pq_ce (T : pq_T) : Nat → Int
  | 0 => 0
  | k + 1 => pq_ce T k + (if pq_E T k then 1 else 0)
theorem pq_ce_bd (T : pq_T) : ∀ k : Nat, 0 ≤ pq_ce T k ∧ pq_ce T k ≤ k
  | 0 => ⟨Int.le_refl 0, Int.le_refl 0⟩
  | k + 1 => by
    have h := pq_ce_bd T k
    unfold pq_ce
    by_cases e : pq_E T k
    · rw [if_pos e]; omega
    · rw [if_neg e]; omega
theorem pq_ce_pos {T : pq_T} {c : Nat} (hc : pq_E T c) : ∀ k : Nat, c < k → 0 < pq_ce T k
  | 0, h => absurd h (Nat.not_lt_zero c)
  | k + 1, h => by
    have h0 := pq_ce_bd T k
    unfold pq_ce
    by_cases e : c = k
    · subst e
      rw [if_pos hc]
      omega
    · have h1 := pq_ce_pos hc k (by omega)
      by_cases q : pq_E T k
      · rw [if_pos q]; omega
      · rw [if_neg q]; omega
def pq_gx (T : pq_T) : Nat → Int
  | 0 => 0
  | k + 1 => if pq_F T k then pq_gx T k else max (pq_gx T k) (pq_x T k)
theorem pq_gx_bd {T : pq_T} (hT : pq_ok T) : ∀ k : Nat, k ≤ 8 → 0 ≤ pq_gx T k ∧ pq_gx T k ≤ pq_n T - 1
  | 0, _ => by
    have := hT.1
    show (0 : Int) ≤ 0 ∧ (0 : Int) ≤ _
    omega
  | k + 1, hk => by
    have h := pq_gx_bd hT k (by omega)
    unfold pq_gx
    by_cases e : pq_F T k
    · rw [if_pos e]; exact h
    · rw [if_neg e]
      have e2 : ¬ pq_n T ≤ pq_x T ((k : Int)).toNat := fun q => e (Or.inr q)
      rw [Int.toNat_natCast] at e2
      have h1 : pq_w T k ≠ -1 := fun q => e (Or.inl (Or.inr (Or.inr (by rw [Int.toNat_natCast]; exact q))))
      have h2 := (hT.2 k (by omega)).1.resolve_left h1
      omega
/-- how many ways there are to fill a cell -/
def pq_wy (T : pq_T) : Int := 1 + 4 * (min (pq_gx T (2 * pq_n T).toNat + 1) (pq_n T - 1) + 1)
theorem pq_wy_bd {T : pq_T} (hT : pq_ok T) : 9 ≤ pq_wy T ∧ pq_wy T ≤ 1 + 4 * pq_n T ∧ pq_wy T % 4 = 1 := by
  have h1 := hT.1
  have h := pq_gx_bd hT (2 * pq_n T).toNat (by omega)
  unfold pq_wy
  omega
/-- a table with one cell filled -/
def pq_fl (T : pq_T) (c : Nat) (w v x : Int) : pq_T := (pq_n T, pz_u (pq_w T) c w, pz_u (pq_v T) c v, pz_u (pq_x T) c x)
theorem pq_ok_fl {T : pq_T} (hT : pq_ok T) {c : Nat} (hc : (c : Int) < 2 * pq_n T) {w v x : Int} (hw : w = 0 ∨ w = 1) (hv : v = 1 ∨ v = -1) (hx : 0 ≤ x ∧ x ≤ pq_n T) : pq_ok (pq_fl T c w v x) := by
  refine ⟨hT.1, fun k hk => ?_⟩
  obtain ⟨h1, h2⟩ := hT.2 k hk
  have ew : pq_w (pq_fl T c w v x) k = if k = c then w else pq_w T k := rfl
  have ev : pq_v (pq_fl T c w v x) k = if k = c then v else pq_v T k := rfl
  have ex : pq_x (pq_fl T c w v x) k = if k = c then x else pq_x T k := rfl
  have en : pq_n (pq_fl T c w v x) = pq_n T := rfl
  rw [ew, ev, ex, en]
  by_cases e : k = c
  · simp only [if_pos e]
    exact ⟨Or.inr ⟨hw, hv, hx⟩, fun q => absurd q (by omega)⟩
  · simp only [if_neg e]
    exact ⟨h1, h2⟩
def pq_mil : Nat := 1000000
theorem pq_mil_eq : (pq_mil : Int) = 1000000 := rfl
/-- the certificates, as they are taken -/
def pq_cert (T : pq_T) (k a b : Int) : Prop :=
  (k = 0 ∧ b = 0 ∧ (1 ≤ a ∧ a ≤ 500) ∧ pq_d (pq_r T a.toNat) = a ∧ pq_n T ≤ pq_q (pq_r T a.toNat)) ∨
  (k = 1 ∧ (0 ≤ a ∧ a ≤ 150) ∧ (1 ≤ b ∧ b ≤ 150) ∧ pq_cyc T a.toNat b.toNat) ∨
  (k = 2 ∧ b = 0 ∧ (1 ≤ a ∧ a ≤ 6) ∧ pq_ed T 6 0 ≠ -1 ∧ pq_ed T 6 0 ≤ a ∧ pq_d (pq_r T a.toNat) = a ∧ pq_q (pq_r T a.toNat) < pq_n T) ∨
  (k = 3 ∧ b = 0 ∧ (1 ≤ a ∧ a ≤ 3) ∧ pq_cl T a.toNat pq_mil pq_g0 = true)
/-- who is decided otherwise than by STOP goes on for ever -/
theorem pq_cert_on {T : pq_T} (hT : pq_ok T) {k a b : Int} (h : pq_cert T k a b) (hk : k ≠ 0) : ∀ i, pq_on T (pq_r T i) := by
  rcases h with ⟨h, -⟩ | ⟨-, h1, h2, h3⟩ | ⟨-, -, h1, h2, h3, h4, h5⟩ | ⟨-, -, h1, h2⟩
  · exact absurd h hk
  · exact pq_cyc_sound hT (by omega) h3
  · obtain ⟨d, e1, e2, e3, e4⟩ := pq_ed_spec T 6 0 h2
    rw [e1] at h3
    exact pq_back_sound hT (d := d) (a := a.toNat) (by omega) e2 e4 (by omega) ⟨pq_d_on (by omega), h5⟩
  · exact pq_gram_sound hT (by omega) (by omega) h2
/-- who is decided by STOP stops with that step, and stays so -/
theorem pq_cert_stop {T : pq_T} {k a b : Int} (h : pq_cert T k a b) (hk : k = 0) : 1 ≤ a ∧ a ≤ 500 ∧ ∀ j : Nat, a ≤ j → pq_r T j = pq_r T a.toNat ∧ pq_d (pq_r T j) = a ∧ pq_n T ≤ pq_q (pq_r T j) := by
  rcases h with ⟨-, -, h1, h2, h3⟩ | ⟨h, -⟩ | ⟨h, -⟩ | ⟨h, -⟩
  · refine ⟨h1.1, h1.2, fun j hj => ?_⟩
    have e : pq_r T j = pq_r T a.toNat := pq_r_stay (fun q => by have := q.1; omega) (by omega)
    rw [e]
    exact ⟨rfl, h2, h3⟩
  · omega
  · omega
  · omega
