/-! p26: ROWS as they lie in their rows of numbers -/
def pq_st (L : List pq_R) (fs fp : Nat → Int) (fk fo : Nat → Int32) : Prop := ∀ (k : Nat) (r : pq_R), L[k]? = some r → fs k = r.1 ∧ fp k = r.2.1 ∧ fk k = r.2.2.1 ∧ fo k = r.2.2.2
theorem pq_st_nil (fs fp : Nat → Int) (fk fo : Nat → Int32) : pq_st [] fs fp fk fo := fun k r h => by simp at h
theorem pq_st_add {L : List pq_R} {fs fp : Nat → Int} {fk fo : Nat → Int32} (h : pq_st L fs fp fk fo) {n : Int} (hn : n = L.length) {r : pq_R} {a b : Int} {c d : Int32} (ha : a = r.1) (hb : b = r.2.1) (hc : c = r.2.2.1) (hd : d = r.2.2.2) : pq_st (L ++ [r]) (pz_u fs n.toNat a) (pz_u fp n.toNat b) (pz_uR fk n.toNat c) (pz_uR fo n.toNat d) := by
  have e : n.toNat = L.length := by omega
  rw [e]
  intro k q hk
  unfold pz_u pz_uR
  by_cases hl : k < L.length
  · rw [List.getElem?_append_left hl] at hk
    rw [if_neg (by omega), if_neg (by omega), if_neg (by omega), if_neg (by omega)]
    exact h k q hk
  · rw [List.getElem?_append_right (by omega)] at hk
    have hz : k - L.length < 1 := (List.getElem?_eq_some_iff.mp hk).1
    have e2 : k = L.length := by omega
    subst e2
    rw [Nat.sub_self] at hk
    cases hk
    rw [if_pos rfl, if_pos rfl, if_pos rfl, if_pos rfl]
    exact ⟨ha, hb, hc, hd⟩
/-- a ROW more, if there is room -/
def pq_a1 (L : List pq_R) (r : pq_R) : List pq_R := if L.length < 24 then L ++ [r] else L
/-- whether a cell leads to a ROW, asked with whole numbers -/
def pq_lz (T : pq_T) (j qs qp : Int) (K S : Int32) : Prop := ¬ pq_E T j ∧ pq_x T j.toNat = qs ∧ (K &&& pq_bit (qp - pq_v T j.toNat) = 0 ∨ (if S &&& pq_bit (qp - pq_v T j.toNat) = 0 then (0 : Int) else 1) = pq_w T j.toNat)
theorem pq_lz_iff {T : pq_T} {j : Int} (hj : 0 ≤ j) (r : pq_R) : pq_lz T j r.1 r.2.1 r.2.2.1 r.2.2.2 ↔ pq_ld T j.toNat r := by
  have e : ((j.toNat : Nat) : Int) = j := Int.toNat_of_nonneg hj
  unfold pq_lz
  show _ ↔ (¬ pq_E T ((j.toNat : Nat) : Int) ∧ _)
  rw [e]
theorem pq_b1_t {T : pq_T} {r : pq_R} {j : Int} (hj : 0 ≤ j) (h : pq_lz T j r.1 r.2.1 r.2.2.1 r.2.2.2) : pq_b1 T r (j + 1).toNat = pq_b1 T r j.toNat ++ [pq_ad j.toNat (r.2.1 - pq_v T j.toNat) r.2.2.1 r.2.2.2] := by
  rw [show (j + 1).toNat = j.toNat + 1 by omega]
  show pq_b1 T r j.toNat ++ _ = _
  rw [if_pos ((pq_lz_iff hj r).mp h)]
theorem pq_b1_f {T : pq_T} {r : pq_R} {j : Int} (hj : 0 ≤ j) (h : ¬ pq_lz T j r.1 r.2.1 r.2.2.1 r.2.2.2) : pq_b1 T r (j + 1).toNat = pq_b1 T r j.toNat := by
  rw [show (j + 1).toNat = j.toNat + 1 by omega]
  show pq_b1 T r j.toNat ++ _ = _
  rw [if_neg (fun q => h ((pq_lz_iff hj r).mpr q)), List.append_nil]
theorem pq_en_t {T : pq_T} {j : Int} (hj : 0 ≤ j) (h : pq_F T j) : pq_en T (j + 1).toNat = pq_en T j.toNat ++ [pq_ad j.toNat 0 0 0] := by
  rw [show (j + 1).toNat = j.toNat + 1 by omega]
  show pq_en T j.toNat ++ _ = _
  rw [if_pos (by rw [Int.toNat_of_nonneg hj]; exact h)]
theorem pq_en_f {T : pq_T} {j : Int} (hj : 0 ≤ j) (h : ¬ pq_F T j) : pq_en T (j + 1).toNat = pq_en T j.toNat := by
  rw [show (j + 1).toNat = j.toNat + 1 by omega]
  show pq_en T j.toNat ++ _ = _
  rw [if_neg (by rw [Int.toNat_of_nonneg hj]; exact h), List.append_nil]
theorem pq_en_le (T : pq_T) : ∀ k : Nat, (pq_en T k).length ≤ k
  | 0 => Nat.le_refl 0
  | k + 1 => by
    have h := pq_en_le T k
    unfold pq_en
    rw [List.length_append]
    by_cases e : pq_F T k
    · rw [if_pos e]; simp; omega
    · rw [if_neg e]; simp; omega
theorem pq_bk_take {T : pq_T} {L : List pq_R} {i : Nat} {r : pq_R} (h : L[i]? = some r) : pq_bk T (L.take (i + 1)) = pq_bk T (L.take i) ++ pq_b1 T r (2 * pq_n T).toNat := by
  unfold pq_bk
  rw [List.take_succ, h, List.flatMap_append]
  simp
theorem pq_b1_le (T : pq_T) (r : pq_R) {j k : Nat} (h : j ≤ k) : ∃ X, pq_b1 T r k = pq_b1 T r j ++ X := by
  induction k with
  | zero => exact ⟨[], by rw [show j = 0 by omega]; rfl⟩
  | succ k ih =>
    by_cases e : j = k + 1
    · exact ⟨[], by rw [e, List.append_nil]⟩
    · obtain ⟨X, hX⟩ := ih (by omega)
      refine ⟨X ++ (if pq_ld T k r then [pq_ad k (r.2.1 - pq_v T k) r.2.2.1 r.2.2.2] else []), ?_⟩
      show pq_b1 T r k ++ _ = _
      rw [hX, List.append_assoc]
/-- what is there already is a part of all -/
theorem pq_bk_more {T : pq_T} {L : List pq_R} {i j : Nat} {r : pq_R} (h : L[i]? = some r) (hj : j ≤ (2 * pq_n T).toNat) : (pq_bk T (L.take i)).length + (pq_b1 T r j).length ≤ (pq_bk T L).length := by
  obtain ⟨X, hX⟩ := pq_b1_le T r hj
  have e1 : L = L.take (i + 1) ++ L.drop (i + 1) := (List.take_append_drop _ _).symm
  have e2 : pq_bk T L = pq_bk T (L.take (i + 1)) ++ pq_bk T (L.drop (i + 1)) := by
    conv => lhs; rw [e1]
    unfold pq_bk
    rw [List.flatMap_append]
  rw [e2, pq_bk_take h, hX]
  simp only [List.length_append]
  omega
theorem pq_bk_all {T : pq_T} {L : List pq_R} {i : Nat} (h : L.length ≤ i) : pq_bk T (L.take i) = pq_bk T L := by rw [List.take_of_length_le h]
/-- the states of ROWS -/
def pq_rs (L : List pq_R) : Prop := ∀ r ∈ L, 0 ≤ r.1 ∧ r.1 ≤ 3
theorem pq_b1_rs {T : pq_T} {r : pq_R} : ∀ k : Nat, k ≤ 8 → pq_rs (pq_b1 T r k)
  | 0, _ => fun q h => absurd h List.not_mem_nil
  | k + 1, hk => by
    intro q h
    unfold pq_b1 at h
    rcases List.mem_append.mp h with h | h
    · exact pq_b1_rs k (by omega) q h
    · by_cases e : pq_ld T k r
      · rw [if_pos e] at h
        rw [List.mem_singleton.mp h]
        show 0 ≤ ((k / 2 : Nat) : Int) ∧ ((k / 2 : Nat) : Int) ≤ 3
        omega
      · rw [if_neg e] at h; exact absurd h List.not_mem_nil
theorem pq_en_rs {T : pq_T} : ∀ k : Nat, k ≤ 8 → pq_rs (pq_en T k)
  | 0, _ => fun q h => absurd h List.not_mem_nil
  | k + 1, hk => by
    intro q h
    unfold pq_en at h
    rcases List.mem_append.mp h with h | h
    · exact pq_en_rs k (by omega) q h
    · by_cases e : pq_F T k
      · rw [if_pos e] at h
        rw [List.mem_singleton.mp h]
        show 0 ≤ ((k / 2 : Nat) : Int) ∧ ((k / 2 : Nat) : Int) ≤ 3
        omega
      · rw [if_neg e] at h; exact absurd h List.not_mem_nil
theorem pq_rw_rs {T : pq_T} (hT : pq_ok T) : ∀ d : Nat, pq_rs (pq_rw T d)
  | 0 => pq_en_rs _ (by have := hT.1; omega)
  | d + 1 => by
    intro q h
    have h : q ∈ (pq_rw T d).flatMap _ := h
    obtain ⟨r, -, h2⟩ := List.mem_flatMap.mp h
    exact pq_b1_rs _ (by have := hT.1; omega) q h2
theorem pq_rs_at {L : List pq_R} (h : pq_rs L) {k : Nat} {r : pq_R} (hk : L[k]? = some r) : 0 ≤ r.1 ∧ r.1 ≤ 3 := h r (List.mem_of_getElem? hk)
theorem pq_ed_full {T : pq_T} {f d : Nat} (h : ¬ (pq_bk T (pq_rw T d)).length ≤ 24) : pq_ed T (f + 1) d = -1 := by
  unfold pq_ed
  rw [if_pos (by show 24 < (pq_bk T (pq_rw T d)).length; omega)]
theorem pq_ed_found {T : pq_T} {f d : Nat} (h : (pq_bk T (pq_rw T d)).length ≤ 24) (h2 : (pq_bk T (pq_rw T d)).length = 0) : pq_ed T (f + 1) d = ((d + 1 : Nat) : Int) := by
  unfold pq_ed
  rw [if_neg (by show ¬ 24 < (pq_bk T (pq_rw T d)).length; omega), if_pos (show (pq_rw T (d + 1)).length = 0 from h2)]
theorem pq_ed_go {T : pq_T} {f d : Nat} (h : (pq_bk T (pq_rw T d)).length ≤ 24) (h2 : ¬ (pq_bk T (pq_rw T d)).length = 0) : pq_ed T (f + 1) d = pq_ed T f (d + 1) := by
  conv => lhs; unfold pq_ed
  rw [if_neg (by show ¬ 24 < (pq_bk T (pq_rw T d)).length; omega), if_neg (show ¬ (pq_rw T (d + 1)).length = 0 from h2)]
