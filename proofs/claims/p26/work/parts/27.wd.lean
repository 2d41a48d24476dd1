/-! p26: the whole object, folded -/
abbrev pq_Z : Type := Nat × (Nat × Nat × Nat × pq_C × Nat × Nat × pq_C × Int × Int) × Nat × (Nat × Nat × Nat × Nat × Nat × (Nat → Int) × (Nat → Int) × (Nat → Int32) × (Nat → Int32) × Int) × (Nat × Nat × Nat × Nat × Nat × (Nat → Int) × (Nat → Int) × (Nat → Int32) × (Nat → Int32) × Int) × (Nat × Nat × Nat × Nat × Nat × (Nat → Int) × (Nat → Int) × (Nat → Int) × (Nat → Int) × Int × Int × Int)
abbrev pq_S : Type := Nat × (Nat × Nat × pq_C) × pq_Z
def pq_rest (cI cZ cT : ClassId) (ρ : pq_Z) : va_W := [(ρ.1, .inl (cT, 4, .inr (.inr (.inr (.inr (fun _ => none)))))), (ρ.2.1.1, .inr (1, [.ref ρ.2.1.2.1, .ref ρ.2.1.2.2.2.2.1, .int (zi ρ.2.1.2.2.2.2.2.2.2.1), .int (zi ρ.2.1.2.2.2.2.2.2.2.2)])), (ρ.2.1.2.1, .inr (5, [.ref ρ.2.1.2.2.1, .int (zi (pq_d ρ.2.1.2.2.2.1)), .int (zi (pq_q ρ.2.1.2.2.2.1)), .int (zi (pq_p ρ.2.1.2.2.2.1)), .int (zi (pq_l ρ.2.1.2.2.2.1)), .int (zi (pq_g ρ.2.1.2.2.2.1))])), (ρ.2.1.2.2.1, .inl (cI, 1003, .inl (zf (pz_tp (pq_t ρ.2.1.2.2.2.1))))), (ρ.2.1.2.2.2.2.1, .inr (5, [.ref ρ.2.1.2.2.2.2.2.1, .int (zi (pq_d ρ.2.1.2.2.2.2.2.2.1)), .int (zi (pq_q ρ.2.1.2.2.2.2.2.2.1)), .int (zi (pq_p ρ.2.1.2.2.2.2.2.2.1)), .int (zi (pq_l ρ.2.1.2.2.2.2.2.2.1)), .int (zi (pq_g ρ.2.1.2.2.2.2.2.2.1))])), (ρ.2.1.2.2.2.2.2.1, .inl (cI, 1003, .inl (zf (pz_tp (pq_t ρ.2.1.2.2.2.2.2.2.1))))), (ρ.2.2.1, .inr (0, [.ref ρ.2.2.2.1.1, .ref ρ.2.2.2.2.1.1])), (ρ.2.2.2.1.1, .inr (4, [.ref ρ.2.2.2.1.2.1, .ref ρ.2.2.2.1.2.2.1, .ref ρ.2.2.2.1.2.2.2.1, .ref ρ.2.2.2.1.2.2.2.2.1, .int (zi ρ.2.2.2.1.2.2.2.2.2.2.2.2.2)])), (ρ.2.2.2.1.2.1, .inl (cI, 24, .inl (zf ρ.2.2.2.1.2.2.2.2.2.1))), (ρ.2.2.2.1.2.2.1, .inl (cI, 24, .inl (zf ρ.2.2.2.1.2.2.2.2.2.2.1))), (ρ.2.2.2.1.2.2.2.1, .inl (cI, 24, .inl ρ.2.2.2.1.2.2.2.2.2.2.2.1)), (ρ.2.2.2.1.2.2.2.2.1, .inl (cI, 24, .inl ρ.2.2.2.1.2.2.2.2.2.2.2.2.1)), (ρ.2.2.2.2.1.1, .inr (4, [.ref ρ.2.2.2.2.1.2.1, .ref ρ.2.2.2.2.1.2.2.1, .ref ρ.2.2.2.2.1.2.2.2.1, .ref ρ.2.2.2.2.1.2.2.2.2.1, .int (zi ρ.2.2.2.2.1.2.2.2.2.2.2.2.2.2)])), (ρ.2.2.2.2.1.2.1, .inl (cI, 24, .inl (zf ρ.2.2.2.2.1.2.2.2.2.2.1))), (ρ.2.2.2.2.1.2.2.1, .inl (cI, 24, .inl (zf ρ.2.2.2.2.1.2.2.2.2.2.2.1))), (ρ.2.2.2.2.1.2.2.2.1, .inl (cI, 24, .inl ρ.2.2.2.2.1.2.2.2.2.2.2.2.1)), (ρ.2.2.2.2.1.2.2.2.2.1, .inl (cI, 24, .inl ρ.2.2.2.2.1.2.2.2.2.2.2.2.2.1)), (ρ.2.2.2.2.2.1, .inr (2, [.ref ρ.2.2.2.2.2.2.1, .ref ρ.2.2.2.2.2.2.2.1, .ref ρ.2.2.2.2.2.2.2.2.1, .ref ρ.2.2.2.2.2.2.2.2.2.1, .int (zi ρ.2.2.2.2.2.2.2.2.2.2.2.2.2.2.1), .int (zi ρ.2.2.2.2.2.2.2.2.2.2.2.2.2.2.2.1), .int (zi ρ.2.2.2.2.2.2.2.2.2.2.2.2.2.2.2.2)])), (ρ.2.2.2.2.2.2.1, .inl (cZ, 512, .inl (zf ρ.2.2.2.2.2.2.2.2.2.2.1))), (ρ.2.2.2.2.2.2.2.1, .inl (cI, 512, .inl (zf ρ.2.2.2.2.2.2.2.2.2.2.2.1))), (ρ.2.2.2.2.2.2.2.2.1, .inl (cZ, 8, .inl (zf ρ.2.2.2.2.2.2.2.2.2.2.2.2.1))), (ρ.2.2.2.2.2.2.2.2.2.1, .inl (cZ, 8, .inl (zf ρ.2.2.2.2.2.2.2.2.2.2.2.2.2.1)))]
def pq_WD (cI cZ cM cT : ClassId) (hh : Nat) (ms : List pq_M) (gv tn tb : Int) (κ : pq_S) : va_W := [(hh, .inr (6, [.ref κ.1, .ref κ.2.2.1, .ref κ.2.1.1, .ref κ.2.2.2.1.1, .ref κ.2.2.2.2.1, .ref κ.2.2.2.2.2.2.2.1, .int (zi (ms.length : Int)), .int (zi 0), .int (zi gv), .int (zi tn), .int (zi tb)])), (κ.1, .inl (cM, 12, .inr (.inr (.inr (.inr (pq_mad ms)))))), (κ.2.1.1, .inr (5, [.ref κ.2.1.2.1, .int (zi (pq_d κ.2.1.2.2)), .int (zi (pq_q κ.2.1.2.2)), .int (zi (pq_p κ.2.1.2.2)), .int (zi (pq_l κ.2.1.2.2)), .int (zi (pq_g κ.2.1.2.2))])), (κ.2.1.2.1, .inl (cI, 1003, .inl (zf (pz_tp (pq_t κ.2.1.2.2)))))] ++ (pq_rest cI cZ cT κ.2.2 ++ pq_pool cI ms)
def pq_zok (ρ : pq_Z) : Prop := pq_wz ρ.2.1.2.2.2.1 ∧ pq_wz ρ.2.1.2.2.2.2.2.2.1 ∧ (ρ.2.2.2.2.2.2.2.2.2.2.2.2.2.2.2.2 = 0 ∨ ρ.2.2.2.2.2.2.2.2.2.2.2.2.2.2.2.2 = 1)
def pq_Sok (κ : pq_S) : Prop := pq_wz κ.2.1.2.2 ∧ pq_zok κ.2.2
theorem pq_focusR {D : va_G} {cl : List vw_C} {cI : ClassId} {X R : va_W} {ms : List pq_M} {i : Nat} {μ : pq_M} {H : Heap} (hP : va_P D cl (X ++ (R ++ pq_pool cI ms)) H) (h : ms[i]? = some μ) : va_P D cl ((X ++ pq_Mc cI μ) ++ (R ++ pq_pool cI (ms.eraseIdx i))) H := by
  rw [← List.append_assoc] at hP
  have h2 := pq_focus hP h
  refine h2.mem (fun q hq => ?_)
  simp only [List.mem_append] at hq ⊢
  rcases hq with (z | z) | z | z
  · exact Or.inl (Or.inl (Or.inl z))
  · exact Or.inl (Or.inr z)
  · exact Or.inl (Or.inl (Or.inr z))
  · exact Or.inr z
theorem va_perm3 {a b c d : va_W} : (((a ++ b) ++ c) ++ d).Perm ((a ++ c) ++ (b ++ d)) := by
  rw [List.append_assoc, List.append_assoc]
  exact va_perm4
theorem pq_focusRD {A : Nat → Prop} {cI : ClassId} {X R : va_W} {ms : List pq_M} {i : Nat} {μ : pq_M} (hD : va_D A (X ++ (R ++ pq_pool cI ms))) (h : ms[i]? = some μ) : va_D A ((X ++ pq_Mc cI μ) ++ (R ++ pq_pool cI (ms.eraseIdx i))) := by
  rw [← List.append_assoc] at hD
  exact (pq_focusD hD h).perm va_perm3
theorem pq_unfocusR {D : va_G} {cl : List vw_C} {cI : ClassId} {X R : va_W} {ms : List pq_M} {i : Nat} {μ : pq_M} {H : Heap} (hP : va_P D cl ((X ++ pq_Mc cI μ) ++ (R ++ pq_pool cI (ms.eraseIdx i))) H) (hl : i < ms.length) : va_P D cl (X ++ (R ++ pq_pool cI (ms.set i μ))) H := by
  rw [← List.append_assoc X R]
  exact pq_unfocus (hP.mem (fun q hq => va_perm3.mem_iff.mp hq)) hl
theorem pq_unfocusRD {A : Nat → Prop} {cI : ClassId} {X R : va_W} {ms : List pq_M} {i : Nat} {μ : pq_M} (hD : va_D A ((X ++ pq_Mc cI μ) ++ (R ++ pq_pool cI (ms.eraseIdx i)))) (hl : i < ms.length) : va_D A (X ++ (R ++ pq_pool cI (ms.set i μ))) := by
  rw [← List.append_assoc X R]
  exact pq_unfocusD (hD.perm va_perm3.symm) hl
theorem pq_push {D : va_G} {cl : List vw_C} {cI : ClassId} {X : va_W} {ms : List pq_M} {μ : pq_M} {H : Heap} (hP : va_P D cl ((X ++ pq_Mc cI μ) ++ pq_pool cI ms) H) : va_P D cl (X ++ pq_pool cI (ms ++ [μ])) H := by
  rw [pq_pool_push]
  refine hP.mem (fun q hq => ?_)
  simp only [List.mem_append] at hq ⊢
  rcases hq with z | z | z
  · exact Or.inl (Or.inl z)
  · exact Or.inr z
  · exact Or.inl (Or.inr z)
theorem pq_pushD {A : Nat → Prop} {cI : ClassId} {X : va_W} {ms : List pq_M} {μ : pq_M} (hD : va_D A ((X ++ pq_Mc cI μ) ++ pq_pool cI ms)) : va_D A (X ++ pq_pool cI (ms ++ [μ])) := by
  rw [pq_pool_push]
  refine hD.perm ?_
  rw [List.append_assoc]
  exact List.Perm.append_left X List.perm_append_comm
theorem pq_pushR {D : va_G} {cl : List vw_C} {cI : ClassId} {X R : va_W} {ms : List pq_M} {μ : pq_M} {H : Heap} (hP : va_P D cl ((X ++ pq_Mc cI μ) ++ (R ++ pq_pool cI ms)) H) : va_P D cl (X ++ (R ++ pq_pool cI (ms ++ [μ]))) H := by
  rw [← List.append_assoc X R]
  exact pq_push (hP.mem (fun q hq => va_perm3.mem_iff.mp hq))
theorem pq_pushRD {A : Nat → Prop} {cI : ClassId} {X R : va_W} {ms : List pq_M} {μ : pq_M} (hD : va_D A ((X ++ pq_Mc cI μ) ++ (R ++ pq_pool cI ms))) : va_D A (X ++ (R ++ pq_pool cI (ms ++ [μ]))) := by
  rw [← List.append_assoc X R]
  exact pq_pushD (hD.perm va_perm3.symm)
/-- what is asked of a walk -/
def pq_av (C : pq_C) (y : Int) : Int := if y = 0 then pq_d C else if y = 1 then pq_q C else if y = 2 then pq_p C else if y = 3 then pq_ones C else if y = 4 then pq_runs C else if y = 5 then pq_l C else if y = 6 then pq_g C else pq_eig C
/-- what is asked of a cell -/
def pq_ca (T : pq_T) (j y : Int) : Int := if pq_E T j then -1 else if y = 0 then pq_w T j.toNat else if y = 1 then max (pq_v T j.toNat) 0 else pq_x T j.toNat
/-- what is asked of a machine -/
noncomputable def pq_om (T : pq_T) (k a b : Int) (y : Int) : Int := if y = 0 then pq_n T else if y = 1 then pq_ce T (2 * pq_n T).toNat else if y = 2 then k else if y = 3 then a else if y = 4 then b else if y = 5 then pq_ways T else pq_as T y
/-! counts over the machines -/
def pq_ck (k : Int) : List pq_M → Int
  | [] => 0
  | μ :: r => (if μ.2.2.2.2.2.1 = k then 1 else 0) + pq_ck k r
theorem pq_ck_app (k : Int) : ∀ l r : List pq_M, pq_ck k (l ++ r) = pq_ck k l + pq_ck k r
  | [], r => by show pq_ck k r = 0 + pq_ck k r; omega
  | μ :: l, r => by
    show _ + pq_ck k (l ++ r) = _ + pq_ck k l + pq_ck k r
    rw [pq_ck_app k l r]
    omega
theorem pq_take_1 {ms : List pq_M} {j : Int} (hj : 0 ≤ j) {μ : pq_M} (h : ms[j.toNat]? = some μ) : ms.take (j + 1).toNat = ms.take j.toNat ++ [μ] := by
  rw [show (j + 1).toNat = j.toNat + 1 by omega, List.take_succ, h]
  rfl
theorem pq_ck_t {k : Int} {ms : List pq_M} {j : Int} (hj : 0 ≤ j) {μ : pq_M} (h : ms[j.toNat]? = some μ) (hk : μ.2.2.2.2.2.1 = k) : pq_ck k (ms.take (j + 1).toNat) = pq_ck k (ms.take j.toNat) + 1 := by
  rw [pq_take_1 hj h, pq_ck_app]
  show _ + ((if μ.2.2.2.2.2.1 = k then 1 else 0) + 0) = _
  rw [if_pos hk]
  omega
theorem pq_ck_f {k : Int} {ms : List pq_M} {j : Int} (hj : 0 ≤ j) {μ : pq_M} (h : ms[j.toNat]? = some μ) (hk : ¬ μ.2.2.2.2.2.1 = k) : pq_ck k (ms.take (j + 1).toNat) = pq_ck k (ms.take j.toNat) := by
  rw [pq_take_1 hj h, pq_ck_app]
  show _ + ((if μ.2.2.2.2.2.1 = k then 1 else 0) + 0) = _
  rw [if_neg hk]
  omega
theorem pq_ck_bd (k : Int) : ∀ l : List pq_M, 0 ≤ pq_ck k l ∧ pq_ck k l ≤ l.length
  | [] => ⟨Int.le_refl 0, Int.le_refl 0⟩
  | μ :: l => by
    have h := pq_ck_bd k l
    have e : pq_ck k (μ :: l) = (if μ.2.2.2.2.2.1 = k then 1 else 0) + pq_ck k l := rfl
    rw [e, List.length_cons]
    by_cases q : μ.2.2.2.2.2.1 = k
    · rw [if_pos q]; omega
    · rw [if_neg q]; omega
def pq_cy (ms : List pq_M) : Int := match ms with
  | [] => 0
  | μ :: r => pq_ce μ.2.2.2.2.1 (2 * pq_n μ.2.2.2.2.1).toNat + pq_cy r
theorem pq_cy_app : ∀ l r : List pq_M, pq_cy (l ++ r) = pq_cy l + pq_cy r
  | [], r => by show pq_cy r = 0 + pq_cy r; omega
  | μ :: l, r => by
    show _ + pq_cy (l ++ r) = _ + pq_cy l + pq_cy r
    rw [pq_cy_app l r]
    omega
theorem pq_cy_1 {ms : List pq_M} {j : Int} (hj : 0 ≤ j) {μ : pq_M} (h : ms[j.toNat]? = some μ) : pq_cy (ms.take (j + 1).toNat) = pq_cy (ms.take j.toNat) + pq_ce μ.2.2.2.2.1 (2 * pq_n μ.2.2.2.2.1).toNat := by
  rw [pq_take_1 hj h, pq_cy_app]
  show _ + (_ + 0) = _
  omega
/-- what is asked of all -/
def pq_ma (ms : List pq_M) (gv tn tb y : Int) : Int := if y = 0 then ms.length else if y = 1 then pq_ck (-1) ms else if y = 6 then 0 else if y = 7 then gv else if y = 8 then tn else if y = 9 then tb else if y = 10 then pq_cy ms else pq_ck (y - 2) ms
/-- the champion among the first j machines, and what it reaches -/
def pq_cp (ms : List pq_M) (y : Int) : Nat → Int × Int
  | 0 => (-1, -1)
  | j + 1 => match ms[j]? with
    | none => pq_cp ms y j
    | some μ => if μ.2.2.2.2.2.1 = 0 ∧ (pq_cp ms y j).2 < pq_as μ.2.2.2.2.1 (if y = 0 then 6 else 7) then ((j : Int), pq_as μ.2.2.2.2.1 (if y = 0 then 6 else 7)) else pq_cp ms y j
theorem pq_cp_t {ms : List pq_M} {y : Int} {j : Int} (hj : 0 ≤ j) {μ : pq_M} (h : ms[j.toNat]? = some μ) (hk : μ.2.2.2.2.2.1 = 0) (hg : (pq_cp ms y j.toNat).2 < pq_as μ.2.2.2.2.1 (if y = 0 then 6 else 7)) : pq_cp ms y (j + 1).toNat = (j, pq_as μ.2.2.2.2.1 (if y = 0 then 6 else 7)) := by
  rw [show (j + 1).toNat = j.toNat + 1 by omega]
  unfold pq_cp
  rw [h]
  show (if _ then _ else _) = _
  rw [if_pos ⟨hk, hg⟩, Int.toNat_of_nonneg hj]
theorem pq_cp_f {ms : List pq_M} {y : Int} {j : Int} (hj : 0 ≤ j) {μ : pq_M} (h : ms[j.toNat]? = some μ) (hk : ¬ (μ.2.2.2.2.2.1 = 0 ∧ (pq_cp ms y j.toNat).2 < pq_as μ.2.2.2.2.1 (if y = 0 then 6 else 7))) : pq_cp ms y (j + 1).toNat = pq_cp ms y j.toNat := by
  rw [show (j + 1).toNat = j.toNat + 1 by omega]
  conv => lhs; unfold pq_cp
  rw [h]
  show (if _ then _ else _) = _
  rw [if_neg hk]
theorem pq_as_rg {T : pq_T} (hT : pq_ok T) (y : Int) : -1 ≤ pq_as T y ∧ pq_as T y ≤ 2000 := by
  have h1 := pq_rg hT (k := 500) (by omega)
  have h2 := pq_ones_bd (pq_wf_r hT 500)
  unfold pq_as
  split
  · split
    · omega
    · split
      · omega
      · unfold pz_abs
        split <;> omega
  · omega
