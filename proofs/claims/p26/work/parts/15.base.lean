/-! p26: what the methods of a table and of a walk answer -/
def pq_wo (T : pq_T) (i : Int) : Int := if 0 ≤ i ∧ i < 8 then pq_w T i.toNat else -1
def pq_vo (T : pq_T) (i : Int) : Int := if 0 ≤ i ∧ i < 8 then pq_v T i.toNat else 0
def pq_xo (T : pq_T) (i : Int) : Int := if 0 ≤ i ∧ i < 8 then pq_x T i.toNat else 0
theorem pq_wo_in {T : pq_T} {i : Int} (h1 : 0 ≤ i) (h2 : i < 8) : pq_wo T i = pq_w T i.toNat := if_pos ⟨h1, h2⟩
theorem pq_vo_in {T : pq_T} {i : Int} (h1 : 0 ≤ i) (h2 : i < 8) : pq_vo T i = pq_v T i.toNat := if_pos ⟨h1, h2⟩
theorem pq_xo_in {T : pq_T} {i : Int} (h1 : 0 ≤ i) (h2 : i < 8) : pq_xo T i = pq_x T i.toNat := if_pos ⟨h1, h2⟩
theorem pq_w_rg {T : pq_T} (hT : pq_ok T) {c : Nat} (h : c < 8) : -1 ≤ pq_w T c ∧ pq_w T c ≤ 1 := by
  rcases (hT.2 c h).1 with q | q
  · omega
  · omega
/-- a cell that isn't empty -/
theorem pq_nE {T : pq_T} (hT : pq_ok T) {i : Int} (h : ¬ pq_E T i) : (0 ≤ i ∧ i < 8) ∧ i < 2 * pq_n T ∧ (pq_w T i.toNat = 0 ∨ pq_w T i.toNat = 1) ∧ (pq_v T i.toNat = 1 ∨ pq_v T i.toNat = -1) ∧ 0 ≤ pq_x T i.toNat ∧ pq_x T i.toNat ≤ pq_n T := by
  have h1 : 0 ≤ i := Int.not_lt.mp (fun q => h (Or.inl q))
  have h2 : i < 8 := Int.not_le.mp (fun q => h (Or.inr (Or.inl q)))
  have h3 : ¬ pq_w T i.toNat = -1 := fun q => h (Or.inr (Or.inr q))
  have h4 := hT.2 i.toNat (by omega)
  have h5 := h4.1.resolve_left h3
  have h6 : ¬ 2 * pq_n T ≤ ((i.toNat : Nat) : Int) := fun q => h3 (h4.2 q)
  refine ⟨⟨h1, h2⟩, by omega, h5.1, h5.2.1, h5.2.2.1, h5.2.2.2⟩
theorem pq_nF {T : pq_T} (hT : pq_ok T) {i : Int} (h : ¬ pq_F T i) : (0 ≤ i ∧ i < 8) ∧ i < 2 * pq_n T ∧ (pq_w T i.toNat = 0 ∨ pq_w T i.toNat = 1) ∧ (pq_v T i.toNat = 1 ∨ pq_v T i.toNat = -1) ∧ 0 ≤ pq_x T i.toNat ∧ pq_x T i.toNat < pq_n T := by
  obtain ⟨h1, h2, h3, h4, h5, h6⟩ := pq_nE hT (fun q => h (Or.inl q))
  have h7 : ¬ pq_n T ≤ pq_x T i.toNat := fun q => h (Or.inr q)
  exact ⟨h1, h2, h3, h4, h5, by omega⟩
theorem pq_ce_t {T : pq_T} {j : Int} (h : 0 ≤ j) (hE : pq_E T j) : pq_ce T (j + 1).toNat = pq_ce T j.toNat + 1 := by
  have e : (j + 1).toNat = j.toNat + 1 := by omega
  rw [e]
  show pq_ce T j.toNat + _ = _
  rw [if_pos (by rw [Int.toNat_of_nonneg h]; exact hE)]
theorem pq_ce_f {T : pq_T} {j : Int} (h : 0 ≤ j) (hE : ¬ pq_E T j) : pq_ce T (j + 1).toNat = pq_ce T j.toNat := by
  have e : (j + 1).toNat = j.toNat + 1 := by omega
  rw [e]
  show pq_ce T j.toNat + _ = _
  rw [if_neg (by rw [Int.toNat_of_nonneg h]; exact hE), Int.add_zero]
theorem pq_gx_t {T : pq_T} {j : Int} (h : 0 ≤ j) (hE : pq_F T j) : pq_gx T (j + 1).toNat = pq_gx T j.toNat := by
  have e : (j + 1).toNat = j.toNat + 1 := by omega
  rw [e]
  exact if_pos (by rw [Int.toNat_of_nonneg h]; exact hE)
theorem pq_gx_f {T : pq_T} {j : Int} (h : 0 ≤ j) (hE : ¬ pq_F T j) : pq_gx T (j + 1).toNat = max (pq_gx T j.toNat) (pq_x T j.toNat) := by
  have e : (j + 1).toNat = j.toNat + 1 := by omega
  rw [e]
  exact if_neg (by rw [Int.toNat_of_nonneg h]; exact hE)
def pq_rd (C : pq_C) (i : Int) : Int := if -501 ≤ i ∧ i ≤ 501 then pq_t C i else 0
theorem pq_rd_in {C : pq_C} {i : Int} (h : -501 ≤ i ∧ i ≤ 501) : pq_rd C i = pq_t C i := if_pos h
/-- a walk with another tape -/
def pq_tt (C : pq_C) (t : Int → Int) : pq_C := (pq_q C, pq_p C, t, pq_d C, pq_l C, pq_g C)
theorem pz_tp_rd (t : Int → Int) {i : Int} (h : 0 ≤ i + 501) : pz_tp t (i + 501).toNat = t i := by
  rw [pz_tp_at t h, show i + 501 - 501 = i by omega]
theorem pz_tp_put (t : Int → Int) {i y : Int} (h : 0 ≤ i + 501) : pz_u (pz_tp t) (i + 501).toNat y = pz_tp (pq_up t i y) := by
  rw [pz_tp_u t h, show i + 501 - 501 = i by omega]
theorem pq_sum_1 {t : Int → Int} {l j : Int} (h : l ≤ j) : pq_sum t l (j + 1 - l).toNat = pq_sum t l (j - l).toNat + t j := by
  have e : (j + 1 - l).toNat = (j - l).toNat + 1 := by omega
  rw [e]
  show pq_sum t l (j - l).toNat + t (l + ((j - l).toNat : Int)) = _
  rw [show l + ((j - l).toNat : Int) = j by omega]
theorem pq_chg_1 {t : Int → Int} {l j : Int} (h : l + 1 ≤ j) : pq_chg t l (j - l).toNat = pq_chg t l (j - 1 - l).toNat + (if t j = t (j - 1) then 0 else 1) := by
  have e : (j - l).toNat = (j - 1 - l).toNat + 1 := by omega
  rw [e]
  show pq_chg t l (j - 1 - l).toNat + (if t (l + (((j - 1 - l).toNat + 1 : Nat) : Int)) = t (l + (((j - 1 - l).toNat + 1 : Nat) : Int) - 1) then 0 else 1) = _
  rw [show l + (((j - 1 - l).toNat + 1 : Nat) : Int) = j by omega]
def pq_eig (C : pq_C) : Int := 8 * pq_ones C / (pq_g C - pq_l C + 1)
theorem pq_r_s (T : pq_T) {j : Int} (h : 0 ≤ j) : pq_nx T (pq_r T j.toNat) = pq_r T (j + 1).toNat := by
  rw [show (j + 1).toNat = j.toNat + 1 by omega]
  rfl
theorem pz_u1 {f1 : Nat → Int} {j y : Int} (hj : 0 ≤ j) (hf : ∀ c : Nat, (c : Int) < j → f1 c = y) {c : Nat} (hc : (c : Int) < j + 1) : pz_u f1 j.toNat y c = y := by
  unfold pz_u
  by_cases e : c = j.toNat
  · rw [if_pos e]
  · rw [if_neg e]; exact hf c (by omega)
theorem pz_u3 {f1 f2 f3 g1 g2 g3 : Nat → Int} {j : Int} (hj : 0 ≤ j) (hf : ∀ c : Nat, (c : Int) < j → f1 c = g1 c ∧ f2 c = g2 c ∧ f3 c = g3 c) {c : Nat} (hc : (c : Int) < j + 1) : pz_u f1 j.toNat (g1 j.toNat) c = g1 c ∧ pz_u f2 j.toNat (g2 j.toNat) c = g2 c ∧ pz_u f3 j.toNat (g3 j.toNat) c = g3 c := by
  unfold pz_u
  by_cases e : c = j.toNat
  · rw [if_pos e, if_pos e, if_pos e, e]; exact ⟨rfl, rfl, rfl⟩
  · rw [if_neg e, if_neg e, if_neg e]; exact hf c (by omega)
/-- what a walk that is begun anew must have been -/
def pq_wz (C : pq_C) : Prop := (∀ z, z < pq_l C ∨ pq_g C < z → pq_t C z = 0) ∧ -501 ≤ pq_l C ∧ pq_g C ≤ 501 ∧ pq_l C ≤ 501 ∧ -501 ≤ pq_g C
theorem pq_wz_wf {T : pq_T} {C : pq_C} (hC : pq_wf T C) (hd : pq_d C ≤ 501) : pq_wz C := by
  obtain ⟨-, -, h1, -, h2, h3⟩ := hC
  exact ⟨h1, by omega⟩
theorem pq_wz_r {T : pq_T} (hT : pq_ok T) {k : Nat} (hk : k ≤ 501) : pq_wz (pq_r T k) := pq_wz_wf (pq_wf_r hT k) (by have := pq_d_le T k; omega)
theorem pq_wz_0 : pq_wz pq_0 := ⟨fun _ _ => rfl, by decide, by decide, by decide, by decide⟩
/-- where a walk of so many steps is -/
theorem pq_rg {T : pq_T} (hT : pq_ok T) {k : Nat} (hk : k ≤ 501) : (0 ≤ pq_q (pq_r T k) ∧ pq_q (pq_r T k) ≤ 4) ∧ (-501 ≤ pq_l (pq_r T k) ∧ pq_g (pq_r T k) ≤ 501) ∧ (pq_l (pq_r T k) ≤ pq_p (pq_r T k) ∧ pq_p (pq_r T k) ≤ pq_g (pq_r T k)) ∧ (pq_l (pq_r T k) ≤ 0 ∧ 0 ≤ pq_g (pq_r T k)) ∧ 0 ≤ pq_d (pq_r T k) ∧ pq_d (pq_r T k) ≤ k := by
  obtain ⟨h1, -, -, h2, h3, h4⟩ := pq_wf_r hT k
  have h5 := pq_d_le T k
  have h6 := hT.1
  omega
theorem pq_rd0 {T : pq_T} (hT : pq_ok T) {k : Nat} (hk : k ≤ 501) {i : Int} (_ : -5000 ≤ i) : pq_rd (pq_r T k) i = pq_t (pq_r T k) i := by
  unfold pq_rd
  by_cases h : -501 ≤ i ∧ i ≤ 501
  · exact if_pos h
  · rw [if_neg h]
    have h1 := pq_rg hT hk
    exact ((pq_wf_r hT k).2.2.1 i (by omega)).symm
