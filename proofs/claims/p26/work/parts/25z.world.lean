/-! p26: the whole object: its machines, their cells, what is put aside for its checks -/
/-- a machine: where it and its three rows lie, its table, how it is decided -/
abbrev pq_M : Type := Nat × Nat × Nat × Nat × pq_T × Int × Int × Int
def pq_Mc (cI : ClassId) (μ : pq_M) : va_W := [(μ.1, .inr (3, [.int (zi (pq_n μ.2.2.2.2.1)), .ref μ.2.1, .ref μ.2.2.1, .ref μ.2.2.2.1, .int (zi μ.2.2.2.2.2.1), .int (zi μ.2.2.2.2.2.2.1), .int (zi μ.2.2.2.2.2.2.2)])), (μ.2.1, .inl (cI, 8, .inl (zf (pq_w μ.2.2.2.2.1)))), (μ.2.2.1, .inl (cI, 8, .inl (zf (pq_v μ.2.2.2.2.1)))), (μ.2.2.2.1, .inl (cI, 8, .inl (zf (pq_x μ.2.2.2.2.1))))]
def pq_pool (cI : ClassId) (ms : List pq_M) : va_W := ms.flatMap (pq_Mc cI)
def pq_mad (ms : List pq_M) : Nat → Option Nat := fun i => (ms[i]?).map (fun μ => μ.1)
theorem pq_pool_at {cI : ClassId} {ms : List pq_M} {i : Nat} {μ : pq_M} (h : ms[i]? = some μ) : pq_pool cI ms = pq_pool cI (ms.take i) ++ (pq_Mc cI μ ++ pq_pool cI (ms.drop (i + 1))) := by
  have hl := (List.getElem?_eq_some_iff.mp h).1
  have e : ms = ms.take i ++ (μ :: ms.drop (i + 1)) := by
    have h2 : ms[i] = μ := (List.getElem?_eq_some_iff.mp h).2
    rw [← h2, List.getElem_cons_drop hl, List.take_append_drop]
  conv => lhs; rw [e]
  unfold pq_pool
  rw [List.flatMap_append, List.flatMap_cons]
theorem pq_pool_er {cI : ClassId} {ms : List pq_M} {i : Nat} : pq_pool cI (ms.eraseIdx i) = pq_pool cI (ms.take i) ++ pq_pool cI (ms.drop (i + 1)) := by
  rw [List.eraseIdx_eq_take_drop_succ]
  unfold pq_pool
  rw [List.flatMap_append]
theorem pq_pool_set {cI : ClassId} {ms : List pq_M} {i : Nat} {μ : pq_M} (hl : i < ms.length) : pq_pool cI (ms.set i μ) = pq_pool cI (ms.take i) ++ (pq_Mc cI μ ++ pq_pool cI (ms.drop (i + 1))) := by
  rw [List.set_eq_take_append_cons_drop, if_pos hl]
  unfold pq_pool
  rw [List.flatMap_append, List.flatMap_cons]
/-- two neighbours behind a common part change places, with more behind them -/
theorem va_P.swap4 {D : va_G} {cl : List vw_C} {a b c d : va_W} {H : Heap} (h : va_P D cl (a ++ (b ++ (c ++ d))) H) : va_P D cl ((a ++ c) ++ (b ++ d)) H := by
  intro k q hk
  have hq : q ∈ (a ++ c) ++ (b ++ d) := List.mem_of_getElem? hk
  have hq2 : q ∈ a ++ (b ++ (c ++ d)) := by
    simp only [List.mem_append] at hq ⊢
    rcases hq with (z | z) | z | z
    · exact Or.inl z
    · exact Or.inr (Or.inr (Or.inl z))
    · exact Or.inr (Or.inl z)
    · exact Or.inr (Or.inr (Or.inr z))
  obtain ⟨i, hi⟩ := List.getElem?_of_mem hq2
  exact h i q hi
theorem va_D_iff {A : Nat → Prop} {ws : va_W} : va_D A ws ↔ (ws.map Prod.fst).Pairwise (fun x y => x ≠ y) ∧ ∀ q ∈ ws, A q.1 := by
  rw [List.pairwise_iff_getElem]
  refine ⟨fun h => ⟨fun i j hi hj hij e => ?_, fun q hq => ?_⟩, fun h => ⟨fun i j p q hi hj e => ?_, fun k q hk => h.2 q (List.mem_of_getElem? hk)⟩⟩
  · rw [List.length_map] at hi hj
    rw [List.getElem_map, List.getElem_map] at e
    have := h.1 i j _ _ (List.getElem?_eq_getElem hi) (List.getElem?_eq_getElem hj) e
    omega
  · obtain ⟨i, hi⟩ := List.getElem?_of_mem hq
    exact h.2 i q hi
  · obtain ⟨hil, hie⟩ := List.getElem?_eq_some_iff.mp hi
    obtain ⟨hjl, hje⟩ := List.getElem?_eq_some_iff.mp hj
    rcases Nat.lt_trichotomy i j with z | z | z
    · have := h.1 i j (by rw [List.length_map]; exact hil) (by rw [List.length_map]; exact hjl) z
      rw [List.getElem_map, List.getElem_map, hie, hje] at this
      exact absurd e this
    · exact z
    · have := h.1 j i (by rw [List.length_map]; exact hjl) (by rw [List.length_map]; exact hil) z
      rw [List.getElem_map, List.getElem_map, hie, hje] at this
      exact absurd e.symm this
theorem va_D.perm {A : Nat → Prop} {ws ws' : va_W} (h : va_D A ws) (hp : ws.Perm ws') : va_D A ws' := by
  rw [va_D_iff] at h ⊢
  exact ⟨(hp.map Prod.fst).pairwise h.1 (fun z => Ne.symm z), fun q hq => h.2 q (hp.mem_iff.mpr hq)⟩
theorem va_perm4 {a b c d : va_W} : (a ++ (b ++ (c ++ d))).Perm ((a ++ c) ++ (b ++ d)) := by
  rw [List.append_assoc]
  refine List.Perm.append_left a ?_
  rw [← List.append_assoc, ← List.append_assoc]
  exact List.Perm.append_right d List.perm_append_comm
/-- one machine in the hand, the others behind -/
theorem pq_focus {D : va_G} {cl : List vw_C} {cI : ClassId} {X : va_W} {ms : List pq_M} {i : Nat} {μ : pq_M} {H : Heap} (hP : va_P D cl (X ++ pq_pool cI ms) H) (h : ms[i]? = some μ) : va_P D cl ((X ++ pq_Mc cI μ) ++ pq_pool cI (ms.eraseIdx i)) H := by
  rw [pq_pool_at h] at hP
  rw [pq_pool_er]
  exact hP.swap4
theorem pq_focusD {A : Nat → Prop} {cI : ClassId} {X : va_W} {ms : List pq_M} {i : Nat} {μ : pq_M} (hD : va_D A (X ++ pq_pool cI ms)) (h : ms[i]? = some μ) : va_D A ((X ++ pq_Mc cI μ) ++ pq_pool cI (ms.eraseIdx i)) := by
  rw [pq_pool_at h] at hD
  rw [pq_pool_er]
  exact hD.perm va_perm4
theorem va_P.mem {D : va_G} {cl : List vw_C} {ws ws' : va_W} {H : Heap} (h : va_P D cl ws H) (hm : ∀ q ∈ ws', q ∈ ws) : va_P D cl ws' H := fun k q hk => by
  obtain ⟨i, hi⟩ := List.getElem?_of_mem (hm q (List.mem_of_getElem? hk))
  exact h i q hi
theorem pq_unfocus {D : va_G} {cl : List vw_C} {cI : ClassId} {X : va_W} {ms : List pq_M} {i : Nat} {μ : pq_M} {H : Heap} (hP : va_P D cl ((X ++ pq_Mc cI μ) ++ pq_pool cI (ms.eraseIdx i)) H) (hl : i < ms.length) : va_P D cl (X ++ pq_pool cI (ms.set i μ)) H := by
  rw [pq_pool_er] at hP
  rw [pq_pool_set hl]
  exact hP.mem (fun q hq => va_perm4.mem_iff.mp hq)
theorem pq_unfocusD {A : Nat → Prop} {cI : ClassId} {X : va_W} {ms : List pq_M} {i : Nat} {μ : pq_M} (hD : va_D A ((X ++ pq_Mc cI μ) ++ pq_pool cI (ms.eraseIdx i))) (hl : i < ms.length) : va_D A (X ++ pq_pool cI (ms.set i μ)) := by
  rw [pq_pool_er] at hD
  rw [pq_pool_set hl]
  exact hD.perm va_perm4.symm
theorem pq_set_same {ms : List pq_M} {i : Nat} {μ : pq_M} (h : ms[i]? = some μ) : ms.set i μ = ms := by
  have h2 : ms[i]? = some μ := h
  obtain ⟨hl, e⟩ := List.getElem?_eq_some_iff.mp h2
  rw [← e, List.set_getElem_self]
/-- a machine more -/
theorem pq_pool_push (cI : ClassId) (ms : List pq_M) (μ : pq_M) : pq_pool cI (ms ++ [μ]) = pq_pool cI ms ++ pq_Mc cI μ := by
  unfold pq_pool
  rw [List.flatMap_append]
  simp
theorem pq_mad_push (ms : List pq_M) (μ : pq_M) : va_up (pq_mad ms) ms.length (some μ.1) = pq_mad (ms ++ [μ]) := by
  funext j
  unfold va_up pq_mad
  by_cases e : j = ms.length
  · subst e
    simp
  · rw [if_neg e]
    by_cases h : j < ms.length
    · rw [List.getElem?_append_left h]
    · rw [List.getElem?_eq_none (by omega), List.getElem?_eq_none (by rw [List.length_append, List.length_singleton]; omega)]
theorem pq_mad_set {ms : List pq_M} {i : Nat} {μ ν : pq_M} (h : ms[i]? = some μ) (e : ν.1 = μ.1) : pq_mad (ms.set i ν) = pq_mad ms := by
  funext j
  unfold pq_mad
  have hl := (List.getElem?_eq_some_iff.mp h).1
  by_cases q : i = j
  · subst q
    rw [List.getElem?_set_self hl, h]
    simp [e]
  · rw [List.getElem?_set_ne q]
theorem pq_mad_at {ms : List pq_M} {i : Nat} {μ : pq_M} (h : ms[i]? = some μ) : pq_mad ms i = some μ.1 := by
  unfold pq_mad
  rw [h]
  rfl
/-- a machine as it may stand: its table, and open, or decided by a certificate that is one -/
def pq_mok (μ : pq_M) : Prop := pq_ok μ.2.2.2.2.1 ∧ ((μ.2.2.2.2.2.1 = -1 ∧ μ.2.2.2.2.2.2.1 = -1 ∧ μ.2.2.2.2.2.2.2 = -1) ∨ pq_cert μ.2.2.2.2.1 μ.2.2.2.2.2.1 μ.2.2.2.2.2.2.1 μ.2.2.2.2.2.2.2)
def pq_mo (ms : List pq_M) : Prop := ms.length ≤ 12 ∧ ∀ μ ∈ ms, pq_mok μ
theorem pq_mo_at {ms : List pq_M} (h : pq_mo ms) {i : Nat} {μ : pq_M} (hi : ms[i]? = some μ) : pq_mok μ := h.2 μ (List.mem_of_getElem? hi)
theorem pq_mo_set {ms : List pq_M} (h : pq_mo ms) {i : Nat} {μ : pq_M} (hμ : pq_mok μ) : pq_mo (ms.set i μ) := ⟨by rw [List.length_set]; exact h.1, fun ν hν => (List.mem_or_eq_of_mem_set hν).elim (h.2 ν) (fun e => by rw [e]; exact hμ)⟩
theorem pq_mo_push {ms : List pq_M} (h : pq_mo ms) (hl : ms.length < 12) {μ : pq_M} (hμ : pq_mok μ) : pq_mo (ms ++ [μ]) := ⟨by rw [List.length_append, List.length_singleton]; omega, fun ν hν => (List.mem_append.mp hν).elim (h.2 ν) (fun e => by rw [List.mem_singleton.mp e]; exact hμ)⟩
theorem pq_cert_k {T : pq_T} {k a b : Int} (h : pq_cert T k a b) : (0 ≤ k ∧ k ≤ 3) ∧ (0 ≤ a ∧ a ≤ 500) ∧ 0 ≤ b ∧ b ≤ 150 := by
  rcases h with ⟨h, h2, h3, -⟩ | ⟨h, h2, h3, -⟩ | ⟨h, h2, h3, -⟩ | ⟨h, h2, h3, -⟩ <;> omega
theorem pq_mok_k {am aw av ax : Nat} {T : pq_T} {k a b : Int} (h : pq_mok (am, aw, av, ax, T, k, a, b)) : (-1 ≤ k ∧ k ≤ 3) ∧ (-1 ≤ a ∧ a ≤ 500) ∧ (-1 ≤ b ∧ b ≤ 150) := by
  rcases h.2 with ⟨h1, h2, h3⟩ | h
  · have h1 : k = -1 := h1
    have h2 : a = -1 := h2
    have h3 : b = -1 := h3
    omega
  · have h9 : pq_cert T k a b := h
    have := pq_cert_k h9
    omega
theorem pq_mok_n {am aw av ax : Nat} {T : pq_T} {k a b : Int} (h : pq_mok (am, aw, av, ax, T, k, a, b)) (hk : k = -1) : a = -1 ∧ b = -1 := by
  rcases h.2 with ⟨-, h2, h3⟩ | h
  · exact ⟨h2, h3⟩
  · have h9 : pq_cert T k a b := h
    have := pq_cert_k h9
    omega
theorem pq_mok_c {am aw av ax : Nat} {T : pq_T} {k a b : Int} (h : pq_mok (am, aw, av, ax, T, k, a, b)) (hk : ¬ k = -1) : pq_cert T k a b := h.2.resolve_left (fun q => hk q.1)
/-- the numbers of a certificate, as they are asked first -/
def pq_ic (k a b : Int) : Prop := (k = 0 ∧ (1 ≤ a ∧ a ≤ 500) ∧ b = 0) ∨ (k = 1 ∧ (0 ≤ a ∧ a ≤ 150) ∧ 1 ≤ b ∧ b ≤ 150) ∨ (k = 2 ∧ (1 ≤ a ∧ a ≤ 6) ∧ b = 0) ∨ (k = 3 ∧ (1 ≤ a ∧ a ≤ 3) ∧ b = 0)
def pq_isb (T : pq_T) (a : Int) : Prop := pq_ed T 6 0 ≠ -1 ∧ pq_ed T 6 0 ≤ a ∧ pq_d (pq_r T a.toNat) = a ∧ pq_q (pq_r T a.toNat) < pq_n T
theorem pq_cert_0 {T : pq_T} {k a b : Int} (hi : pq_ic k a b) (hk : k = 0) : pq_cert T k a b ↔ pq_d (pq_r T a.toNat) = a ∧ pq_n T ≤ pq_q (pq_r T a.toNat) := by
  unfold pq_ic at hi
  refine ⟨fun h => ?_, fun h => Or.inl ⟨hk, by omega, by omega, h.1, h.2⟩⟩
  rcases h with ⟨-, -, -, h⟩ | ⟨h, -⟩ | ⟨h, -⟩ | ⟨h, -⟩
  · exact h
  · omega
  · omega
  · omega
theorem pq_cert_1 {T : pq_T} {k a b : Int} (hi : pq_ic k a b) (hk : k = 1) : pq_cert T k a b ↔ pq_cyc T a.toNat b.toNat := by
  unfold pq_ic at hi
  refine ⟨fun h => ?_, fun h => Or.inr (Or.inl ⟨hk, by omega, by omega, h⟩)⟩
  rcases h with ⟨h, -⟩ | ⟨-, -, -, h⟩ | ⟨h, -⟩ | ⟨h, -⟩
  · omega
  · exact h
  · omega
  · omega
theorem pq_cert_2 {T : pq_T} {k a b : Int} (hi : pq_ic k a b) (hk : k = 2) : pq_cert T k a b ↔ pq_isb T a := by
  unfold pq_ic at hi
  refine ⟨fun h => ?_, fun h => Or.inr (Or.inr (Or.inl ⟨hk, by omega, by omega, h⟩))⟩
  rcases h with ⟨h, -⟩ | ⟨h, -⟩ | ⟨-, -, -, h⟩ | ⟨h, -⟩
  · omega
  · omega
  · exact h
  · omega
theorem pq_cert_3 {T : pq_T} {k a b : Int} (hi : pq_ic k a b) (hk : k = 3) : pq_cert T k a b ↔ pq_cl T a.toNat pq_mil pq_g0 = true := by
  unfold pq_ic at hi
  refine ⟨fun h => ?_, fun h => Or.inr (Or.inr (Or.inr ⟨hk, by omega, by omega, h⟩))⟩
  rcases h with ⟨h, -⟩ | ⟨h, -⟩ | ⟨h, -⟩ | ⟨-, -, -, h⟩
  · omega
  · omega
  · omega
  · exact h
/-- what is asked of a table alone -/
noncomputable def pq_sbk (T : pq_T) : Int := if pb (pq_ed T 6 0 ≠ -1 ∧ pq_d (pq_r T (pq_ed T 6 0).toNat) = pq_ed T 6 0 ∧ pq_q (pq_r T (pq_ed T 6 0).toNat) < pq_n T) = 1 then pq_ed T 6 0 else -1
noncomputable def pq_ways (T : pq_T) : Int := if pb (pq_q (pq_r T 500) < pq_n T ∧ pq_E T (pq_m (pq_r T 500))) = 1 then pq_wy T else 0
def pq_as (T : pq_T) (y : Int) : Int := if pq_n T ≤ pq_q (pq_r T 500) then (if y = 6 then pq_ones (pq_r T 500) else if y = 7 then pq_d (pq_r T 500) else pz_abs (pq_p (pq_r T 500))) else -1
theorem pq_ed_rg (T : pq_T) : -1 ≤ pq_ed T 6 0 ∧ pq_ed T 6 0 ≤ 6 := by
  by_cases h : pq_ed T 6 0 = -1
  · omega
  · obtain ⟨a, h1, h2, h3, -⟩ := pq_ed_spec T 6 0 h
    omega
