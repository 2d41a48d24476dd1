/-! p26, the pure part, 2: BACK. -/
/-- a ROW: its state, its place, which symbols are known, which of them are 1 -/
abbrev pq_R : Type := Int × Int × Int32 × Int32
def pq_bit (p : Int) : Int32 := (1 : Int32) <<< (Int32.ofInt (p + 6) &&& 31)
theorem pq_bit_eq {p : Int} (h1 : -6 ≤ p) (h2 : p ≤ 6) : (pq_bit p).toBitVec = BitVec.twoPow 32 (p + 6).toNat := by
  have h : p = -6 ∨ p = -5 ∨ p = -4 ∨ p = -3 ∨ p = -2 ∨ p = -1 ∨ p = 0 ∨ p = 1 ∨ p = 2 ∨ p = 3 ∨ p = 4 ∨ p = 5 ∨ p = 6 := by omega
  rcases h with rfl | rfl | rfl | rfl | rfl | rfl | rfl | rfl | rfl | rfl | rfl | rfl | rfl <;> decide +kernel
theorem pq_has_iff (K : Int32) {z : Int} (h1 : -6 ≤ z) (h2 : z ≤ 6) : K &&& pq_bit z = 0 ↔ K.toBitVec.getLsbD (z + 6).toNat = false := by
  rw [← Int32.toBitVec_inj, Int32.toBitVec_and, pq_bit_eq h1 h2, BitVec.and_twoPow]
  have hz : (z + 6).toNat < 32 := by omega
  cases hk : K.toBitVec.getLsbD (z + 6).toNat with
  | false => simp
  | true =>
    refine ⟨fun h => ?_, fun h => by cases h⟩
    have h3 := congrArg (fun x => BitVec.getLsbD x (z + 6).toNat) h
    simp [BitVec.getLsbD_twoPow, hz] at h3
theorem pq_or_has (K : Int32) {p z : Int} (h1 : -6 ≤ z) (h2 : z ≤ 6) (h3 : -6 ≤ p) (h4 : p ≤ 6) : (K ||| pq_bit p) &&& pq_bit z = 0 ↔ z ≠ p ∧ K &&& pq_bit z = 0 := by
  rw [pq_has_iff _ h1 h2, pq_has_iff _ h1 h2, Int32.toBitVec_or, pq_bit_eq h3 h4, BitVec.getLsbD_or, BitVec.getLsbD_twoPow]
  have hp : (p + 6).toNat < 32 := by omega
  by_cases e : z = p
  · subst e
    simp [hp]
  · have e2 : ¬ (p + 6).toNat = (z + 6).toNat := by omega
    simp [e, e2]
theorem pq_no_has (S : Int32) {p z : Int} (h1 : -6 ≤ z) (h2 : z ≤ 6) (h3 : -6 ≤ p) (h4 : p ≤ 6) : (S &&& (pq_bit p ^^^ (-1))) &&& pq_bit z = 0 ↔ z = p ∨ S &&& pq_bit z = 0 := by
  rw [pq_has_iff _ h1 h2, pq_has_iff _ h1 h2, Int32.toBitVec_and, Int32.toBitVec_xor, pq_bit_eq h3 h4, BitVec.getLsbD_and, BitVec.getLsbD_xor, BitVec.getLsbD_twoPow]
  have hp : (p + 6).toNat < 32 := by omega
  have hz : (z + 6).toNat < 32 := by omega
  have hm : ((-1 : Int32).toBitVec).getLsbD (z + 6).toNat = true := by
    rw [show (-1 : Int32).toBitVec = BitVec.allOnes 32 by decide +kernel, BitVec.getLsbD_allOnes]
    simp [hz]
  rw [hm]
  by_cases e : z = p
  · subst e
    simp [hp]
  · have e2 : ¬ (p + 6).toNat = (z + 6).toNat := by omega
    simp [e, e2]
/-- the ROW of a cell, with the bits before it -/
def pq_ad (c : Nat) (p : Int) (K S : Int32) : pq_R := (((c / 2 : Nat) : Int), p, K ||| pq_bit p, if c % 2 = 1 then S ||| pq_bit p else S &&& (pq_bit p ^^^ (-1)))
/-- whether a cell leads to a ROW -/
abbrev pq_ld (T : pq_T) (c : Nat) (r : pq_R) : Prop := ¬ pq_E T c ∧ pq_x T c = r.1 ∧ (r.2.2.1 &&& pq_bit (r.2.1 - pq_v T c) = 0 ∨ (if r.2.2.2 &&& pq_bit (r.2.1 - pq_v T c) = 0 then (0 : Int) else 1) = pq_w T c)
def pq_b1 (T : pq_T) (r : pq_R) : Nat → List pq_R
  | 0 => []
  | k + 1 => pq_b1 T r k ++ (if pq_ld T k r then [pq_ad k (r.2.1 - pq_v T k) r.2.2.1 r.2.2.2] else [])
def pq_bk (T : pq_T) (L : List pq_R) : List pq_R := L.flatMap (fun r => pq_b1 T r (2 * pq_n T).toNat)
def pq_en (T : pq_T) : Nat → List pq_R
  | 0 => []
  | k + 1 => pq_en T k ++ (if pq_F T k then [pq_ad k 0 0 0] else [])
/-- the ROWS of a depth -/
def pq_rw (T : pq_T) : Nat → List pq_R
  | 0 => pq_en T (2 * pq_n T).toNat
  | d + 1 => pq_bk T (pq_rw T d)
/-- the least depth without a ROW, from d on, if there are never too many; f depths are left -/
def pq_ed (T : pq_T) : Nat → Nat → Int
  | 0, _ => -1
  | f + 1, d => if 24 < (pq_rw T (d + 1)).length then -1 else if (pq_rw T (d + 1)).length = 0 then ((d + 1 : Nat) : Int) else pq_ed T f (d + 1)
theorem pq_ed_spec (T : pq_T) : ∀ f d : Nat, pq_ed T f d ≠ -1 → ∃ a : Nat, pq_ed T f d = (a : Int) ∧ d < a ∧ a ≤ d + f ∧ pq_rw T a = []
  | 0, _, h => absurd rfl h
  | f + 1, d, h => by
    unfold pq_ed at h ⊢
    by_cases h1 : 24 < (pq_rw T (d + 1)).length
    · rw [if_pos h1] at h; exact absurd rfl h
    · rw [if_neg h1] at h ⊢
      by_cases h2 : (pq_rw T (d + 1)).length = 0
      · rw [if_pos h2]
        exact ⟨d + 1, rfl, by omega, by omega, List.length_eq_zero_iff.mp h2⟩
      · rw [if_neg h2] at h ⊢
        obtain ⟨a, h3, h4, h5, h6⟩ := pq_ed_spec T f (d + 1) h
        exact ⟨a, h3, by omega, by omega, h6⟩
theorem pq_b1_mem {T : pq_T} {r : pq_R} : ∀ {k c : Nat}, c < k → pq_ld T c r → pq_ad c (r.2.1 - pq_v T c) r.2.2.1 r.2.2.2 ∈ pq_b1 T r k
  | 0, c, h, _ => absurd h (Nat.not_lt_zero c)
  | k + 1, c, h, hl => by
    unfold pq_b1
    rcases Nat.lt_or_ge c k with q | q
    · exact List.mem_append_left _ (pq_b1_mem q hl)
    · have e : c = k := by omega
      subst e
      rw [if_pos hl]
      exact List.mem_append_right _ (List.mem_singleton.mpr rfl)
theorem pq_en_mem {T : pq_T} : ∀ {k c : Nat}, c < k → pq_F T c → pq_ad c 0 0 0 ∈ pq_en T k
  | 0, c, h, _ => absurd h (Nat.not_lt_zero c)
  | k + 1, c, h, hl => by
    unfold pq_en
    rcases Nat.lt_or_ge c k with q | q
    · exact List.mem_append_left _ (pq_en_mem q hl)
    · have e : c = k := by omega
      subst e
      rw [if_pos hl]
      exact List.mem_append_right _ (List.mem_singleton.mpr rfl)
/-- a machine stands as a ROW says -/
def pq_mt (C : pq_C) (r : pq_R) : Prop := pq_q C = r.1 ∧ ∀ z : Int, -6 ≤ z → z ≤ 6 → ¬ r.2.2.1 &&& pq_bit z = 0 → pq_t C (pq_p C - r.2.1 + z) = (if r.2.2.2 &&& pq_bit z = 0 then 0 else 1)
/-- the cell of an end: where the machine is, and its state is none of STOP -/
theorem pq_m_of {T : pq_T} {C : pq_C} (hC : pq_wf T C) (hq : pq_q C < pq_n T) : (pq_c C : Int) = pq_m C ∧ pq_c C < (2 * pq_n T).toNat ∧ ((pq_c C / 2 : Nat) : Int) = pq_q C ∧ ((pq_c C % 2 : Nat) : Int) = pq_t C (pq_p C) := by
  obtain ⟨⟨b1, b2⟩, b3, -⟩ := hC
  have h3 := b3 (pq_p C)
  have h4 : pq_m C = 2 * pq_q C + pq_t C (pq_p C) := rfl
  have h5 : (pq_c C : Int) = pq_m C := Int.toNat_of_nonneg (by omega)
  refine ⟨h5, by omega, by omega, by omega⟩
theorem pq_mt_ad {C : pq_C} {c : Nat} {p : Int} {K S : Int32} (hp1 : -6 ≤ p) (hp2 : p ≤ 6) (hq : ((c / 2 : Nat) : Int) = pq_q C) (hs : ((c % 2 : Nat) : Int) = pq_t C (pq_p C)) (hK : ∀ z : Int, -6 ≤ z → z ≤ 6 → z ≠ p → ¬ K &&& pq_bit z = 0 → pq_t C (pq_p C - p + z) = (if S &&& pq_bit z = 0 then 0 else 1)) : pq_mt C (pq_ad c p K S) := by
  refine ⟨hq.symm, fun z h1 h2 h3 => ?_⟩
  show pq_t C (pq_p C - p + z) = (if (if c % 2 = 1 then S ||| pq_bit p else S &&& (pq_bit p ^^^ (-1))) &&& pq_bit z = 0 then 0 else 1)
  have h3 : ¬ (K ||| pq_bit p) &&& pq_bit z = 0 := h3
  rw [pq_or_has K h1 h2 hp1 hp2] at h3
  by_cases e : z = p
  · subst e
    rw [show pq_p C - z + z = pq_p C by omega, ← hs]
    by_cases ho : c % 2 = 1
    · rw [if_pos ho, if_neg (by rw [pq_or_has S h1 h2 hp1 hp2]; exact fun q => q.1 rfl), ho]
      rfl
    · rw [if_neg ho, if_pos (by rw [pq_no_has S h1 h2 hp1 hp2]; exact Or.inl rfl), show c % 2 = 0 by omega]
      rfl
  · rw [hK z h1 h2 e (fun q => h3 ⟨e, q⟩)]
    by_cases ho : c % 2 = 1
    · rw [if_pos ho]
      by_cases hS : S &&& pq_bit z = 0
      · rw [if_pos hS, if_pos (by rw [pq_or_has S h1 h2 hp1 hp2]; exact ⟨e, hS⟩)]
      · rw [if_neg hS, if_neg (by rw [pq_or_has S h1 h2 hp1 hp2]; exact fun q => hS q.2)]
    · rw [if_neg ho]
      by_cases hS : S &&& pq_bit z = 0
      · rw [if_pos hS, if_pos (by rw [pq_no_has S h1 h2 hp1 hp2]; exact Or.inr hS)]
      · rw [if_neg hS, if_neg (by rw [pq_no_has S h1 h2 hp1 hp2]; exact fun q => q.elim e hS)]
theorem pq_end {T : pq_T} {C : pq_C} (hC : pq_wf T C) (hq : pq_q C < pq_n T) (hF : pq_F T (pq_m C)) : ∃ r ∈ pq_rw T 0, pq_mt C r ∧ r.2.1 = 0 := by
  obtain ⟨h1, h2, h3, h4⟩ := pq_m_of hC hq
  refine ⟨pq_ad (pq_c C) 0 0 0, pq_en_mem h2 (by rw [h1]; exact hF), pq_mt_ad (by omega) (by omega) h3 h4 (fun z _ _ _ h => absurd (by rw [Int32.zero_and]) h), rfl⟩
theorem pq_back1 {T : pq_T} {C : pq_C} {r : pq_R} (hT : pq_ok T) (hC : pq_wf T C) (ho : pq_on T C) (hr : pq_mt (pq_go T C) r) (hp1 : -5 ≤ r.2.1) (hp2 : r.2.1 ≤ 5) : ∃ r' ∈ pq_b1 T r (2 * pq_n T).toNat, pq_mt C r' ∧ (r'.2.1 = r.2.1 + 1 ∨ r'.2.1 = r.2.1 - 1) := by
  obtain ⟨h1, h2, h3, h4⟩ := pq_m_of hC ho.1
  obtain ⟨-, -, -, a1, a2, -, -⟩ := pq_at hT ho
  obtain ⟨g1, g2⟩ := hr
  rw [pq_q_go] at g1
  rw [pq_p_go, pq_t_go] at g2
  have hE : ¬ pq_E T (pq_c C) := by rw [h1]; exact ho.2
  refine ⟨pq_ad (pq_c C) (r.2.1 - pq_v T (pq_c C)) r.2.2.1 r.2.2.2, pq_b1_mem h2 ⟨hE, g1, ?_⟩, pq_mt_ad (by omega) (by omega) h3 h4 (fun z z1 z2 z3 z4 => ?_), ?_⟩
  · by_cases hk : r.2.2.1 &&& pq_bit (r.2.1 - pq_v T (pq_c C)) = 0
    · exact Or.inl hk
    · refine Or.inr ?_
      have := g2 (r.2.1 - pq_v T (pq_c C)) (by omega) (by omega) hk
      rw [show pq_p C + pq_v T (pq_c C) - r.2.1 + (r.2.1 - pq_v T (pq_c C)) = pq_p C by omega, pq_up_self] at this
      exact this.symm
  · have := g2 z z1 z2 z4
    rw [pq_up_ne _ _ (by omega)] at this
    rw [← this]
    congr 1
    omega
  · show r.2.1 - pq_v T (pq_c C) = _ ∨ r.2.1 - pq_v T (pq_c C) = _
    omega
theorem pq_back_gen {T : pq_T} (hT : pq_ok T) : ∀ (d t : Nat), d ≤ 6 → (∀ i, i < d → pq_on T (pq_r T (t + i))) → pq_q (pq_r T (t + d)) < pq_n T → pq_F T (pq_m (pq_r T (t + d))) → ∃ r ∈ pq_rw T d, pq_mt (pq_r T t) r ∧ -(d : Int) ≤ r.2.1 ∧ r.2.1 ≤ d
  | 0, t, _, _, hq, hF => by
    obtain ⟨r, h1, h2, h3⟩ := pq_end (pq_wf_r hT t) hq hF
    exact ⟨r, h1, h2, by omega, by omega⟩
  | d + 1, t, hd, hon, hq, hF => by
    have e : ∀ i, t + 1 + i = t + (i + 1) := fun i => by omega
    obtain ⟨r, h1, h2, h3, h4⟩ := pq_back_gen hT d (t + 1) (by omega) (fun i hi => by rw [e]; exact hon (i + 1) (by omega)) (by rw [e]; exact hq) (by rw [e]; exact hF)
    have h0 : pq_on T (pq_r T t) := hon 0 (by omega)
    rw [pq_r_on h0] at h2
    obtain ⟨r', g1, g2, g3⟩ := pq_back1 hT (pq_wf_r hT t) h0 h2 (by omega) (by omega)
    refine ⟨r', ?_, g2, by omega, by omega⟩
    show r' ∈ (pq_rw T d).flatMap _
    exact List.mem_flatMap.mpr ⟨r, h1, g1⟩
/-- the certificate of BACK -/
def pq_gon (T : pq_T) (a : Nat) : Prop := (∀ i, i < a → pq_on T (pq_r T i)) ∧ pq_q (pq_r T a) < pq_n T
theorem pq_least {P : Nat → Prop} : ∀ n : Nat, P n → ∃ k : Nat, P k ∧ ∀ i, i < k → ¬ P i := by
  intro n
  induction n using Nat.strongRecOn with
  | ind n ih =>
    intro h
    by_cases q : ∃ i, i < n ∧ P i
    · obtain ⟨i, h1, h2⟩ := q
      exact ih i h1 h2
    · exact ⟨n, h, fun i hi hp => q ⟨i, hi, hp⟩⟩
theorem pq_back_sound {T : pq_T} (hT : pq_ok T) {d a : Nat} (hd : d ≤ 6) (hd0 : 0 < d) (hr : pq_rw T d = []) (hda : d ≤ a) (hg : pq_gon T a) : ∀ k, pq_on T (pq_r T k) := by
  intro k
  by_cases hk : pq_on T (pq_r T k)
  · exact hk
  · exfalso
    obtain ⟨k, hk, hl⟩ := pq_least (P := fun k => ¬ pq_on T (pq_r T k)) k hk
    have hon : ∀ i, i < k → pq_on T (pq_r T i) := fun i hi => Classical.not_not.mp (hl i hi)
    have hak : a ≤ k := Nat.le_of_not_lt (fun q => hk (hg.1 k q))
    have main : ∀ t, (∀ i, i < t → pq_on T (pq_r T i)) → a ≤ t → pq_q (pq_r T t) < pq_n T → ¬ pq_F T (pq_m (pq_r T t)) := by
      intro t h1 h2 h3 h4
      have e : t - d + d = t := by omega
      obtain ⟨r, h5, -⟩ := pq_back_gen hT d (t - d) hd (fun i hi => h1 _ (by omega)) (by rw [e]; exact h3) (by rw [e]; exact h4)
      rw [hr] at h5
      exact absurd h5 List.not_mem_nil
    by_cases hq : pq_q (pq_r T k) < pq_n T
    · refine main k hon hak hq (Or.inl ?_)
      exact Classical.not_not.mp (fun q => hk ⟨hq, q⟩)
    · have hne : k ≠ a := fun e => by rw [e] at hq; exact hq hg.2
      have h1 := hon (k - 1) (by omega)
      have e : k - 1 + 1 = k := by omega
      have h2 := pq_r_on h1
      rw [e] at h2
      rw [h2, pq_q_go] at hq
      exact main (k - 1) (fun i hi => hon i (by omega)) (by omega) h1.1 (Or.inr (by unfold pq_c at hq; omega))
