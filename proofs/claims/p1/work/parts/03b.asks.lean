def zs_c_X7_isWithin : List Cond := .code yX7_isWithin cX7_isWithin 3 (some .boolean) :: (([] : List Cond))
set_option maxHeartbeats 4000000 in
set_option maxRecDepth 100000 in
/-- within -/
theorem c_X7_isWithin (l : Launch) (hnt : l.stackTraces = false) (dC : Nat → ClassId) (dI : Nat → Nat → Nat) (a0 : Nat) (p0 : Int32) (p1 : Int32) (p2 : Int32) (sz : Nat)  : Met l yX7_isWithin zs_c_X7_isWithin ({ frames := 0, cells := 0, slots := 0, locals := 0 }) (va_Pc [.int p0, .int p1, .int p2] (fun U => U.heap.size = sz ∧ va_P (dC, dI) vwCl [] U.heap ∧ va_K (dC, dI) vwCl [] U ∧ va_D (fun _ => True) [] ∧ zB a0 (va_A [] sz) U U.heap)) (va_Qi (fun (r : Int32) (_ : Unit) => r = zw p0 p1 p2) (fun _ t => va_P (dC, dI) vwCl [] t.heap ∧ va_K (dC, dI) vwCl [] t ∧ va_D (va_A [] sz) []) (va_A [] sz)) 0 0 (va_A [] sz) := by
  refine Met.ofW (cc := cX7_isWithin) (maxL := 3) (ret := (some .boolean)) (by decide) rfl ?_
  intro p e s m args below meth c s₁ B hml hv
  obtain ⟨rfl, hsz, hP, hK, hD0, hZ⟩ := hv
  have hx := B.exec
  have hb := B.bytes
  have hr := B.returns
  have hts := atoms_spec (ws := zs_c_X7_isWithin) B.pre
  have hown : s.vm.findClass RX7 = some m.cls := findClass_of_methodNamed B.named
  have hlocks := B.notSynchronized
  subst hsz
  have hD := hD0.self (sz := s.heap.size)
  generalize hAe : va_A [] s.heap.size = A at hD hZ ⊢
  have hA : ∀ q : Nat, s.heap.size ≤ q → A q := fun q h => by rw [← hAe]; exact Or.inr h
  have hS : va_S A s.heap s.heap [] := va_S.rf
  have hl := lv_entry ([.int p0, .int p1, .int p2]) (n := 3) (Nat.le_of_ble_eq_true rfl)
  rw [lg_entry_eq]
  generalize (lg_sl ([.int p0, .int p1, .int p2]) ++ List.replicate (3 - (lg_sl ([.int p0, .int p1, .int p2])).length) Slot.unset).toArray = ls at hl ⊢
  have hl : lv_has ls 3 [(0, .int p0), (1, .int p1), (2, .int p2)] := hl
  refine lv_iload_n hx hb dX7_isWithin_0 rfl (lv_at hl 0 rfl) ?_
  refine lv_iload_n hx hb dX7_isWithin_1 rfl (lv_at hl 1 rfl) ?_
  refine lv_icmp_lt (tgt := 14) hx hb dX7_isWithin_2 (by decide) (fun c_1 => ?_) (fun c_1 => ?_)
  · refine lv_iconst (v := 0) hx hb dX7_isWithin_14 (by decide) ?_
    have hP9 := hP.sub (ws' := []) [] rfl
    have hD9 := hD.sub (ws' := []) [] (by decide) rfl
    have hK9 := hK.sub (tys' := []) [] rfl
    refine W.widen (k := 0) (n := 0) (Nat.le_of_ble_eq_true rfl) (Nat.le_of_ble_eq_true rfl) ?_
    exact W.zret (v := 0) hx hb hr (by decide) (fun t ht hW => ⟨⟨0, (), rfl, (by unfold zw; rw [if_neg (fun h => absurd c_1 (Int32.not_lt.mpr h.1))]), ⟨by rw [ht]; exact hP9, va_K.moved hW.alike hK9, hD9⟩⟩, hS.F ht⟩) hS.2.2 dX7_isWithin_15
  · refine lv_iload_n hx hb dX7_isWithin_5 rfl (lv_at hl 0 rfl) ?_
    refine lv_iload_n hx hb dX7_isWithin_6 rfl (lv_at hl 2 rfl) ?_
    refine lv_icmp_gt (tgt := 14) hx hb dX7_isWithin_7 (by decide) (fun c_2 => ?_) (fun c_2 => ?_)
    · refine lv_iconst (v := 0) hx hb dX7_isWithin_14 (by decide) ?_
      have hP9 := hP.sub (ws' := []) [] rfl
      have hD9 := hD.sub (ws' := []) [] (by decide) rfl
      have hK9 := hK.sub (tys' := []) [] rfl
      refine W.widen (k := 0) (n := 0) (Nat.le_of_ble_eq_true rfl) (Nat.le_of_ble_eq_true rfl) ?_
      exact W.zret (v := 0) hx hb hr (by decide) (fun t ht hW => ⟨⟨0, (), rfl, (by unfold zw; rw [if_neg (fun h => absurd c_2 (Int32.not_lt.mpr h.2))]), ⟨by rw [ht]; exact hP9, va_K.moved hW.alike hK9, hD9⟩⟩, hS.F ht⟩) hS.2.2 dX7_isWithin_15
    · refine lv_iconst (v := 1) hx hb dX7_isWithin_10 (by decide) ?_
      refine lv_goto (tgt := 15) hx hb dX7_isWithin_11 (by decide) ?_
      have hP9 := hP.sub (ws' := []) [] rfl
      have hD9 := hD.sub (ws' := []) [] (by decide) rfl
      have hK9 := hK.sub (tys' := []) [] rfl
      refine W.widen (k := 0) (n := 0) (Nat.le_of_ble_eq_true rfl) (Nat.le_of_ble_eq_true rfl) ?_
      exact W.zret (v := 1) hx hb hr (by decide) (fun t ht hW => ⟨⟨1, (), rfl, (by unfold zw; rw [if_pos ⟨Int32.not_lt.mp c_1, Int32.not_lt.mp c_2⟩]), ⟨by rw [ht]; exact hP9, va_K.moved hW.alike hK9, hD9⟩⟩, hS.F ht⟩) hS.2.2 dX7_isWithin_15

def zs_c_X10_is : List Cond := .code yX10_is cX10_is 3 (some .boolean) :: (([] : List Cond))
set_option maxHeartbeats 4000000 in
set_option maxRecDepth 100000 in
/-- within -/
theorem c_X10_is (l : Launch) (hnt : l.stackTraces = false) (dC : Nat → ClassId) (dI : Nat → Nat → Nat) (a0 : Nat) (p0 : Int32) (p1 : Int32) (p2 : Int32) (sz : Nat)  : Met l yX10_is zs_c_X10_is ({ frames := 0, cells := 0, slots := 0, locals := 0 }) (va_Pc [.int p0, .int p1, .int p2] (fun U => U.heap.size = sz ∧ va_P (dC, dI) vwCl [] U.heap ∧ va_K (dC, dI) vwCl [] U ∧ va_D (fun _ => True) [] ∧ zB a0 (va_A [] sz) U U.heap)) (va_Qi (fun (r : Int32) (_ : Unit) => r = zw p0 p1 p2) (fun _ t => va_P (dC, dI) vwCl [] t.heap ∧ va_K (dC, dI) vwCl [] t ∧ va_D (va_A [] sz) []) (va_A [] sz)) 0 0 (va_A [] sz) := by
  refine Met.ofW (cc := cX10_is) (maxL := 3) (ret := (some .boolean)) (by decide) rfl ?_
  intro p e s m args below meth c s₁ B hml hv
  obtain ⟨rfl, hsz, hP, hK, hD0, hZ⟩ := hv
  have hx := B.exec
  have hb := B.bytes
  have hr := B.returns
  have hts := atoms_spec (ws := zs_c_X10_is) B.pre
  have hown : s.vm.findClass RX10 = some m.cls := findClass_of_methodNamed B.named
  have hlocks := B.notSynchronized
  subst hsz
  have hD := hD0.self (sz := s.heap.size)
  generalize hAe : va_A [] s.heap.size = A at hD hZ ⊢
  have hA : ∀ q : Nat, s.heap.size ≤ q → A q := fun q h => by rw [← hAe]; exact Or.inr h
  have hS : va_S A s.heap s.heap [] := va_S.rf
  have hl := lv_entry ([.int p0, .int p1, .int p2]) (n := 3) (Nat.le_of_ble_eq_true rfl)
  rw [lg_entry_eq]
  generalize (lg_sl ([.int p0, .int p1, .int p2]) ++ List.replicate (3 - (lg_sl ([.int p0, .int p1, .int p2])).length) Slot.unset).toArray = ls at hl ⊢
  have hl : lv_has ls 3 [(0, .int p0), (1, .int p1), (2, .int p2)] := hl
  refine lv_iload_n hx hb dX10_is_0 rfl (lv_at hl 0 rfl) ?_
  refine lv_iload_n hx hb dX10_is_1 rfl (lv_at hl 1 rfl) ?_
  refine lv_icmp_lt (tgt := 14) hx hb dX10_is_2 (by decide) (fun c_1 => ?_) (fun c_1 => ?_)
  · refine lv_iconst (v := 0) hx hb dX10_is_14 (by decide) ?_
    have hP9 := hP.sub (ws' := []) [] rfl
    have hD9 := hD.sub (ws' := []) [] (by decide) rfl
    have hK9 := hK.sub (tys' := []) [] rfl
    refine W.widen (k := 0) (n := 0) (Nat.le_of_ble_eq_true rfl) (Nat.le_of_ble_eq_true rfl) ?_
    exact W.zret (v := 0) hx hb hr (by decide) (fun t ht hW => ⟨⟨0, (), rfl, (by unfold zw; rw [if_neg (fun h => absurd c_1 (Int32.not_lt.mpr h.1))]), ⟨by rw [ht]; exact hP9, va_K.moved hW.alike hK9, hD9⟩⟩, hS.F ht⟩) hS.2.2 dX10_is_15
  · refine lv_iload_n hx hb dX10_is_5 rfl (lv_at hl 0 rfl) ?_
    refine lv_iload_n hx hb dX10_is_6 rfl (lv_at hl 2 rfl) ?_
    refine lv_icmp_gt (tgt := 14) hx hb dX10_is_7 (by decide) (fun c_2 => ?_) (fun c_2 => ?_)
    · refine lv_iconst (v := 0) hx hb dX10_is_14 (by decide) ?_
      have hP9 := hP.sub (ws' := []) [] rfl
      have hD9 := hD.sub (ws' := []) [] (by decide) rfl
      have hK9 := hK.sub (tys' := []) [] rfl
      refine W.widen (k := 0) (n := 0) (Nat.le_of_ble_eq_true rfl) (Nat.le_of_ble_eq_true rfl) ?_
      exact W.zret (v := 0) hx hb hr (by decide) (fun t ht hW => ⟨⟨0, (), rfl, (by unfold zw; rw [if_neg (fun h => absurd c_2 (Int32.not_lt.mpr h.2))]), ⟨by rw [ht]; exact hP9, va_K.moved hW.alike hK9, hD9⟩⟩, hS.F ht⟩) hS.2.2 dX10_is_15
    · refine lv_iconst (v := 1) hx hb dX10_is_10 (by decide) ?_
      refine lv_goto (tgt := 15) hx hb dX10_is_11 (by decide) ?_
      have hP9 := hP.sub (ws' := []) [] rfl
      have hD9 := hD.sub (ws' := []) [] (by decide) rfl
      have hK9 := hK.sub (tys' := []) [] rfl
      refine W.widen (k := 0) (n := 0) (Nat.le_of_ble_eq_true rfl) (Nat.le_of_ble_eq_true rfl) ?_
      exact W.zret (v := 1) hx hb hr (by decide) (fun t ht hW => ⟨⟨1, (), rfl, (by unfold zw; rw [if_pos ⟨Int32.not_lt.mp c_1, Int32.not_lt.mp c_2⟩]), ⟨by rw [ht]; exact hP9, va_K.moved hW.alike hK9, hD9⟩⟩, hS.F ht⟩) hS.2.2 dX10_is_15

def zs_c_X7_require_ok : List Cond := .code yX7_require cX7_require 1 none :: (([] : List Cond))
set_option maxHeartbeats 4000000 in
set_option maxRecDepth 100000 in
/-- require, what holds -/
theorem c_X7_require_ok (l : Launch) (hnt : l.stackTraces = false) (dC : Nat → ClassId) (dI : Nat → Nat → Nat) (a0 : Nat)  (sz : Nat)  : Met l yX7_require zs_c_X7_require_ok ({ frames := 0, cells := 0, slots := 0, locals := 0 }) (va_Pc [.int 1] (fun U => U.heap.size = sz ∧ va_P (dC, dI) vwCl [] U.heap ∧ va_K (dC, dI) vwCl [] U ∧ va_D (fun _ => True) [] ∧ zB a0 (va_A [] sz) U U.heap)) (va_Qv (fun _ : Unit => True) (fun _ t => va_P (dC, dI) vwCl [] t.heap ∧ va_K (dC, dI) vwCl [] t ∧ va_D (va_A [] sz) []) (va_A [] sz)) 0 0 (va_A [] sz) := by
  refine Met.ofW (cc := cX7_require) (maxL := 1) (ret := none) (by decide) rfl ?_
  intro p e s m args below meth c s₁ B hml hv
  obtain ⟨rfl, hsz, hP, hK, hD0, hZ⟩ := hv
  have hx := B.exec
  have hb := B.bytes
  have hr := B.returns
  have hts := atoms_spec (ws := zs_c_X7_require_ok) B.pre
  have hown : s.vm.findClass RX7 = some m.cls := findClass_of_methodNamed B.named
  have hlocks := B.notSynchronized
  subst hsz
  have hD := hD0.self (sz := s.heap.size)
  generalize hAe : va_A [] s.heap.size = A at hD hZ ⊢
  have hA : ∀ q : Nat, s.heap.size ≤ q → A q := fun q h => by rw [← hAe]; exact Or.inr h
  have hS : va_S A s.heap s.heap [] := va_S.rf
  have hl := lv_entry ([.int 1]) (n := 1) (Nat.le_of_ble_eq_true rfl)
  rw [lg_entry_eq]
  generalize (lg_sl ([.int 1]) ++ List.replicate (1 - (lg_sl ([.int 1])).length) Slot.unset).toArray = ls at hl ⊢
  have hl : lv_has ls 1 [(0, .int 1)] := hl
  refine lv_iload_n hx hb dX7_require_0 rfl (lv_at hl 0 rfl) ?_
  refine lv_if_ne (tgt := 15) hx hb dX7_require_1 (by decide) (fun c_1 => ?_) (fun c_1 => ?_)
  rotate_left
  · (first | exact absurd c_1 (by decide) | exact absurd (by decide) c_1)
  have hP9 := hP.sub (ws' := []) [] rfl
  have hD9 := hD.sub (ws' := []) [] (by decide) rfl
  have hK9 := hK.sub (tys' := []) [] rfl
  refine W.widen (k := 0) (n := 0) (Nat.le_of_ble_eq_true rfl) (Nat.le_of_ble_eq_true rfl) ?_
  exact W.vret hx hb hr (fun t ht hW => ⟨⟨(), rfl, trivial, ⟨by rw [ht]; exact hP9, va_K.moved hW.alike hK9, hD9⟩⟩, hS.F ht⟩) hS.2.2 dX7_require_15

def zs_c_X7_require_no : List Cond := .code yX7_require cX7_require 1 none :: (([.classLink RX7 292 "java/lang/IllegalArgumentException", .initialized "java/lang/IllegalArgumentException"] : List Cond) ++ (vx_atS RX7 296 "java/lang/IllegalArgumentException" ["java/lang/RuntimeException", "java/lang/Exception"]).filter goodWord)
set_option maxHeartbeats 4000000 in
set_option maxRecDepth 100000 in
/-- require, what does not hold -/
theorem c_X7_require_no (l : Launch) (hnt : l.stackTraces = false) (dC : Nat → ClassId) (dI : Nat → Nat → Nat) (a0 : Nat)  (sz : Nat)  : vx_Met l yX7_require zs_c_X7_require_no ({ frames := 6, cells := 1, slots := 6, locals := 82 }) (va_Pc [.int 0] (fun U => U.heap.size = sz ∧ va_P (dC, dI) vwCl [] U.heap ∧ va_K (dC, dI) vwCl [] U ∧ va_D (fun _ => True) [] ∧ zB a0 (va_A [] sz) U U.heap)) (va_Qv (fun _ : Unit => True) (fun _ t => False) (va_A [] sz)) (vx_X (fun _ : Unit => True) (fun E _ _ => E = "java/lang/IllegalArgumentException") (va_A [] sz)) 1 6 (va_A [] sz) := by
  refine vx_ofW (cc := cX7_require) (maxL := 1) (ret := none) (by decide) rfl ?_
  intro p e s m args below meth c s₁ B hml hout hv
  obtain ⟨rfl, hsz, hP, hK, hD0, hZ⟩ := hv
  have hx := B.exec
  have hb := B.bytes
  have hr := B.returns
  have hts := atoms_spec (ws := zs_c_X7_require_no) B.pre
  have hown : s.vm.findClass RX7 = some m.cls := findClass_of_methodNamed B.named
  have hlocks := B.notSynchronized
  subst hsz
  have hD := hD0.self (sz := s.heap.size)
  generalize hAe : va_A [] s.heap.size = A at hD hZ ⊢
  have hA : ∀ q : Nat, s.heap.size ≤ q → A q := fun q h => by rw [← hAe]; exact Or.inr h
  have hS : va_S A s.heap s.heap [] := va_S.rf
  have hl := lv_entry ([.int 0]) (n := 1) (Nat.le_of_ble_eq_true rfl)
  rw [lg_entry_eq]
  generalize (lg_sl ([.int 0]) ++ List.replicate (1 - (lg_sl ([.int 0])).length) Slot.unset).toArray = ls at hl ⊢
  have hl : lv_has ls 1 [(0, .int 0)] := hl
  refine lv_iload_n hx hb dX7_require_0 rfl (lv_at hl 0 rfl) ?_
  refine lv_if_ne (tgt := 15) hx hb dX7_require_1 (by decide) (fun c_1 => ?_) (fun c_1 => ?_)
  · (first | exact absurd c_1 (by decide) | exact absurd (by decide) c_1)
  obtain ⟨sa, hstr⟩ := hZ.sIAE
  exact vx_throwSW (A := A) (names := ["java/lang/RuntimeException", "java/lang/Exception"]) hx hb hnt hown (by decide) (by decide) (hts (.classLink RX7 292 "java/lang/IllegalArgumentException") (by decide +kernel)) (hts (.initialized "java/lang/IllegalArgumentException") (by decide +kernel)) hstr (zz_hat hts hZ (by decide +kernel) (by decide +kernel)) (by decide +kernel) hZ.un hZ.su hS (by rw [hml]; exact hl.1) dX7_require_4 dX7_require_7 dX7_require_8 dX7_require_11 dX7_require_14 (fun x h => (hout x h).elim) (Nat.le_of_ble_eq_true rfl) (Nat.le_of_ble_eq_true rfl) (Nat.le_of_ble_eq_true rfl) (Nat.le_of_ble_eq_true rfl) hlocks (fun t hW h1 h2 => ⟨(), trivial, rfl, zz_F hS h1 h2⟩) (fun z hz => hS.2.2 z hz) (Nat.le_of_ble_eq_true rfl) (Nat.le_of_ble_eq_true rfl)

def zs_c_X7_find : List Cond := .code yX7_find cX7_find 3 (some (.object "Haltingale$Machine")) :: (([.classLink RX7 301 "java/lang/IndexOutOfBoundsException", .initialized "java/lang/IndexOutOfBoundsException", .fieldLink RX7 148 "Haltingale" "machineCount" "I"] : List Cond) ++ (vx_atS RX7 305 "java/lang/IndexOutOfBoundsException" ["java/lang/RuntimeException", "java/lang/Exception"]).filter goodWord ++ wsX70)
set_option maxHeartbeats 4000000 in
set_option maxRecDepth 100000 in
/-- there is none -/
theorem c_X7_find (l : Launch) (hnt : l.stackTraces = false) (dC : Nat → ClassId) (dI : Nat → Nat → Nat) (a0 : Nat) (h0 : Nat) (qm : Nat) (qt : Nat) (qw : Nat) (qc : Nat) (qb : Nat) (qg : Nat) (p0 : Int32) (sz : Nat)  : vx_Met l yX7_find zs_c_X7_find ({ frames := 6, cells := 1, slots := 6, locals := 82 }) (va_Pc [.ref h0, .int p0] (fun U => U.heap.size = sz ∧ va_P (dC, dI) vwCl [(h0, .inr (9, [.ref qm, .ref qt, .ref qw, .ref qc, .ref qb, .ref qg, .int 0, .int 0, .int 0, .int 0, .int 0]))] U.heap ∧ va_K (dC, dI) vwCl [] U ∧ va_D (fun _ => True) [(h0, .inr (9, [.ref qm, .ref qt, .ref qw, .ref qc, .ref qb, .ref qg, .int 0, .int 0, .int 0, .int 0, .int 0]))] ∧ zB a0 (va_A [(h0, .inr (9, [.ref qm, .ref qt, .ref qw, .ref qc, .ref qb, .ref qg, .int 0, .int 0, .int 0, .int 0, .int 0]))] sz) U U.heap)) (va_Qr (fun _ : Unit => True) (fun _ _ t => False) (va_A [(h0, .inr (9, [.ref qm, .ref qt, .ref qw, .ref qc, .ref qb, .ref qg, .int 0, .int 0, .int 0, .int 0, .int 0]))] sz)) (vx_X (fun _ : Unit => True) (fun E _ _ => E = "java/lang/IndexOutOfBoundsException") (va_A [(h0, .inr (9, [.ref qm, .ref qt, .ref qw, .ref qc, .ref qb, .ref qg, .int 0, .int 0, .int 0, .int 0, .int 0]))] sz)) 1 6 (va_A [(h0, .inr (9, [.ref qm, .ref qt, .ref qw, .ref qc, .ref qb, .ref qg, .int 0, .int 0, .int 0, .int 0, .int 0]))] sz) := by
  refine vx_ofW (cc := cX7_find) (maxL := 3) (ret := (some (.object "Haltingale$Machine"))) (by decide) rfl ?_
  intro p e s m args below meth c s₁ B hml hout hv
  obtain ⟨rfl, hsz, hP, hK, hD0, hZ⟩ := hv
  have hx := B.exec
  have hb := B.bytes
  have hr := B.returns
  have hts := atoms_spec (ws := zs_c_X7_find) B.pre
  have hown : s.vm.findClass RX7 = some m.cls := findClass_of_methodNamed B.named
  have hlocks := B.notSynchronized
  have hiX7 : ∀ w ∈ wsX70, w ∈ zs_c_X7_find := by decide +kernel
  subst hsz
  have hD := hD0.self (sz := s.heap.size)
  generalize hAe : va_A [(h0, .inr (9, [.ref qm, .ref qt, .ref qw, .ref qc, .ref qb, .ref qg, .int 0, .int 0, .int 0, .int 0, .int 0]))] s.heap.size = A at hD hZ ⊢
  have hA : ∀ q : Nat, s.heap.size ≤ q → A q := fun q h => by rw [← hAe]; exact Or.inr h
  have hS : va_S A s.heap s.heap [] := va_S.rf
  have hl := lv_entry ([.ref h0, .int p0]) (n := 3) (Nat.le_of_ble_eq_true rfl)
  rw [lg_entry_eq]
  generalize (lg_sl ([.ref h0, .int p0]) ++ List.replicate (3 - (lg_sl ([.ref h0, .int p0])).length) Slot.unset).toArray = ls at hl ⊢
  have hl : lv_has ls 3 [(0, .ref h0), (1, .int p0)] := hl
  refine lv_iload_n hx hb dX7_find_0 rfl (lv_at hl 1 rfl) ?_
  refine lv_if_lt (tgt := 18) hx hb dX7_find_1 (by decide) (fun c_1 => ?_) (fun c_1 => ?_)
  · obtain ⟨sa, hstr⟩ := hZ.sIOO
    exact vx_throwSW (A := A) (names := ["java/lang/RuntimeException", "java/lang/Exception"]) hx hb hnt hown (by decide) (by decide) (hts (.classLink RX7 301 "java/lang/IndexOutOfBoundsException") (by decide +kernel)) (hts (.initialized "java/lang/IndexOutOfBoundsException") (by decide +kernel)) hstr (zz_hat hts hZ (by decide +kernel) (by decide +kernel)) (by decide +kernel) hZ.un hZ.su hS (by rw [hml]; exact hl.1) dX7_find_18 dX7_find_21 dX7_find_22 dX7_find_25 dX7_find_28 (fun x h => (hout x h).elim) (Nat.le_of_ble_eq_true rfl) (Nat.le_of_ble_eq_true rfl) (Nat.le_of_ble_eq_true rfl) (Nat.le_of_ble_eq_true rfl) hlocks (fun t hW h1 h2 => ⟨(), trivial, rfl, zz_F hS h1 h2⟩) (fun z hz => hS.2.2 z hz) (Nat.le_of_ble_eq_true rfl) (Nat.le_of_ble_eq_true rfl)
  · refine lv_iload_n hx hb dX7_find_4 rfl (lv_at hl 1 rfl) ?_
    refine lv_aload_n hx hb dX7_find_5 rfl (lv_at hl 0 rfl) ?_
    refine va_get (D := (dC, dI)) (ci := 9) (v := .int 0) (C := RX7) (T := TX7) (N := 11) hx hb hts hiX7 hown hK hP 0 rfl rfl 6 (by decide) (hts (.fieldLink RX7 148 "Haltingale" "machineCount" "I") (by decide +kernel)) (fun _ h9 => h9) rfl dX7_find_6 ?_
    refine lv_icmp_ge (tgt := 18) hx hb dX7_find_9 (by decide) (fun c_2 => ?_) (fun c_2 => ?_)
    rotate_left
    · exact absurd (Int32.not_lt.mp c_1) c_2
    obtain ⟨sa, hstr⟩ := hZ.sIOO
    exact vx_throwSW (A := A) (names := ["java/lang/RuntimeException", "java/lang/Exception"]) hx hb hnt hown (by decide) (by decide) (hts (.classLink RX7 301 "java/lang/IndexOutOfBoundsException") (by decide +kernel)) (hts (.initialized "java/lang/IndexOutOfBoundsException") (by decide +kernel)) hstr (zz_hat hts hZ (by decide +kernel) (by decide +kernel)) (by decide +kernel) hZ.un hZ.su hS (by rw [hml]; exact hl.1) dX7_find_18 dX7_find_21 dX7_find_22 dX7_find_25 dX7_find_28 (fun x h => (hout x h).elim) (Nat.le_of_ble_eq_true rfl) (Nat.le_of_ble_eq_true rfl) (Nat.le_of_ble_eq_true rfl) (Nat.le_of_ble_eq_true rfl) hlocks (fun t hW h1 h2 => ⟨(), trivial, rfl, zz_F hS h1 h2⟩) (fun z hz => hS.2.2 z hz) (Nat.le_of_ble_eq_true rfl) (Nat.le_of_ble_eq_true rfl)

def zs_c_X7_findTag : List Cond := .code yX7_findTag cX7_findTag 3 (some (.object "Haltingale$Tag")) :: (([.classLink RX7 301 "java/lang/IndexOutOfBoundsException", .initialized "java/lang/IndexOutOfBoundsException", .fieldLink RX7 122 "Haltingale" "tagCount" "I"] : List Cond) ++ (vx_atS RX7 305 "java/lang/IndexOutOfBoundsException" ["java/lang/RuntimeException", "java/lang/Exception"]).filter goodWord ++ wsX70)
set_option maxHeartbeats 4000000 in
set_option maxRecDepth 100000 in
/-- there is none -/
theorem c_X7_findTag (l : Launch) (hnt : l.stackTraces = false) (dC : Nat → ClassId) (dI : Nat → Nat → Nat) (a0 : Nat) (h0 : Nat) (qm : Nat) (qt : Nat) (qw : Nat) (qc : Nat) (qb : Nat) (qg : Nat) (p0 : Int32) (sz : Nat)  : vx_Met l yX7_findTag zs_c_X7_findTag ({ frames := 6, cells := 1, slots := 6, locals := 82 }) (va_Pc [.ref h0, .int p0] (fun U => U.heap.size = sz ∧ va_P (dC, dI) vwCl [(h0, .inr (9, [.ref qm, .ref qt, .ref qw, .ref qc, .ref qb, .ref qg, .int 0, .int 0, .int 0, .int 0, .int 0]))] U.heap ∧ va_K (dC, dI) vwCl [] U ∧ va_D (fun _ => True) [(h0, .inr (9, [.ref qm, .ref qt, .ref qw, .ref qc, .ref qb, .ref qg, .int 0, .int 0, .int 0, .int 0, .int 0]))] ∧ zB a0 (va_A [(h0, .inr (9, [.ref qm, .ref qt, .ref qw, .ref qc, .ref qb, .ref qg, .int 0, .int 0, .int 0, .int 0, .int 0]))] sz) U U.heap)) (va_Qr (fun _ : Unit => True) (fun _ _ t => False) (va_A [(h0, .inr (9, [.ref qm, .ref qt, .ref qw, .ref qc, .ref qb, .ref qg, .int 0, .int 0, .int 0, .int 0, .int 0]))] sz)) (vx_X (fun _ : Unit => True) (fun E _ _ => E = "java/lang/IndexOutOfBoundsException") (va_A [(h0, .inr (9, [.ref qm, .ref qt, .ref qw, .ref qc, .ref qb, .ref qg, .int 0, .int 0, .int 0, .int 0, .int 0]))] sz)) 1 6 (va_A [(h0, .inr (9, [.ref qm, .ref qt, .ref qw, .ref qc, .ref qb, .ref qg, .int 0, .int 0, .int 0, .int 0, .int 0]))] sz) := by
  refine vx_ofW (cc := cX7_findTag) (maxL := 3) (ret := (some (.object "Haltingale$Tag"))) (by decide) rfl ?_
  intro p e s m args below meth c s₁ B hml hout hv
  obtain ⟨rfl, hsz, hP, hK, hD0, hZ⟩ := hv
  have hx := B.exec
  have hb := B.bytes
  have hr := B.returns
  have hts := atoms_spec (ws := zs_c_X7_findTag) B.pre
  have hown : s.vm.findClass RX7 = some m.cls := findClass_of_methodNamed B.named
  have hlocks := B.notSynchronized
  have hiX7 : ∀ w ∈ wsX70, w ∈ zs_c_X7_findTag := by decide +kernel
  subst hsz
  have hD := hD0.self (sz := s.heap.size)
  generalize hAe : va_A [(h0, .inr (9, [.ref qm, .ref qt, .ref qw, .ref qc, .ref qb, .ref qg, .int 0, .int 0, .int 0, .int 0, .int 0]))] s.heap.size = A at hD hZ ⊢
  have hA : ∀ q : Nat, s.heap.size ≤ q → A q := fun q h => by rw [← hAe]; exact Or.inr h
  have hS : va_S A s.heap s.heap [] := va_S.rf
  have hl := lv_entry ([.ref h0, .int p0]) (n := 3) (Nat.le_of_ble_eq_true rfl)
  rw [lg_entry_eq]
  generalize (lg_sl ([.ref h0, .int p0]) ++ List.replicate (3 - (lg_sl ([.ref h0, .int p0])).length) Slot.unset).toArray = ls at hl ⊢
  have hl : lv_has ls 3 [(0, .ref h0), (1, .int p0)] := hl
  refine lv_iload_n hx hb dX7_findTag_0 rfl (lv_at hl 1 rfl) ?_
  refine lv_if_lt (tgt := 17) hx hb dX7_findTag_1 (by decide) (fun c_1 => ?_) (fun c_1 => ?_)
  · obtain ⟨sa, hstr⟩ := hZ.sTag
    exact vx_throwSW (A := A) (names := ["java/lang/RuntimeException", "java/lang/Exception"]) hx hb hnt hown (by decide) (by decide) (hts (.classLink RX7 301 "java/lang/IndexOutOfBoundsException") (by decide +kernel)) (hts (.initialized "java/lang/IndexOutOfBoundsException") (by decide +kernel)) hstr (zz_hat hts hZ (by decide +kernel) (by decide +kernel)) (by decide +kernel) hZ.un hZ.su hS (by rw [hml]; exact hl.1) dX7_findTag_17 dX7_findTag_20 dX7_findTag_21 dX7_findTag_24 dX7_findTag_27 (fun x h => (hout x h).elim) (Nat.le_of_ble_eq_true rfl) (Nat.le_of_ble_eq_true rfl) (Nat.le_of_ble_eq_true rfl) (Nat.le_of_ble_eq_true rfl) hlocks (fun t hW h1 h2 => ⟨(), trivial, rfl, zz_F hS h1 h2⟩) (fun z hz => hS.2.2 z hz) (Nat.le_of_ble_eq_true rfl) (Nat.le_of_ble_eq_true rfl)
  · refine lv_iload_n hx hb dX7_findTag_4 rfl (lv_at hl 1 rfl) ?_
    refine lv_aload_n hx hb dX7_findTag_5 rfl (lv_at hl 0 rfl) ?_
    refine va_get (D := (dC, dI)) (ci := 9) (v := .int 0) (C := RX7) (T := TX7) (N := 11) hx hb hts hiX7 hown hK hP 0 rfl rfl 7 (by decide) (hts (.fieldLink RX7 122 "Haltingale" "tagCount" "I") (by decide +kernel)) (fun _ h9 => h9) rfl dX7_findTag_6 ?_
    refine lv_icmp_ge (tgt := 17) hx hb dX7_findTag_9 (by decide) (fun c_2 => ?_) (fun c_2 => ?_)
    rotate_left
    · exact absurd (Int32.not_lt.mp c_1) c_2
    obtain ⟨sa, hstr⟩ := hZ.sTag
    exact vx_throwSW (A := A) (names := ["java/lang/RuntimeException", "java/lang/Exception"]) hx hb hnt hown (by decide) (by decide) (hts (.classLink RX7 301 "java/lang/IndexOutOfBoundsException") (by decide +kernel)) (hts (.initialized "java/lang/IndexOutOfBoundsException") (by decide +kernel)) hstr (zz_hat hts hZ (by decide +kernel) (by decide +kernel)) (by decide +kernel) hZ.un hZ.su hS (by rw [hml]; exact hl.1) dX7_findTag_17 dX7_findTag_20 dX7_findTag_21 dX7_findTag_24 dX7_findTag_27 (fun x h => (hout x h).elim) (Nat.le_of_ble_eq_true rfl) (Nat.le_of_ble_eq_true rfl) (Nat.le_of_ble_eq_true rfl) (Nat.le_of_ble_eq_true rfl) hlocks (fun t hW h1 h2 => ⟨(), trivial, rfl, zz_F hS h1 h2⟩) (fun z hz => hS.2.2 z hz) (Nat.le_of_ble_eq_true rfl) (Nat.le_of_ble_eq_true rfl)

def zs_c_X7_requireRoomForMachine : List Cond := .code yX7_requireRoomForMachine cX7_requireRoomForMachine 1 none :: (([.fieldLink RX7 148 "Haltingale" "machineCount" "I"] : List Cond) ++ wsX70)
set_option maxHeartbeats 4000000 in
set_option maxRecDepth 100000 in
/-- there is room -/
theorem c_X7_requireRoomForMachine (l : Launch) (hnt : l.stackTraces = false) (dC : Nat → ClassId) (dI : Nat → Nat → Nat) (a0 : Nat) (h0 : Nat) (qm : Nat) (qt : Nat) (qw : Nat) (qc : Nat) (qb : Nat) (qg : Nat) (sz : Nat)  : Met l yX7_requireRoomForMachine zs_c_X7_requireRoomForMachine ({ frames := 0, cells := 0, slots := 0, locals := 0 }) (va_Pc [.ref h0] (fun U => U.heap.size = sz ∧ va_P (dC, dI) vwCl [(h0, .inr (9, [.ref qm, .ref qt, .ref qw, .ref qc, .ref qb, .ref qg, .int 0, .int 0, .int 0, .int 0, .int 0]))] U.heap ∧ va_K (dC, dI) vwCl [] U ∧ va_D (fun _ => True) [(h0, .inr (9, [.ref qm, .ref qt, .ref qw, .ref qc, .ref qb, .ref qg, .int 0, .int 0, .int 0, .int 0, .int 0]))] ∧ zB a0 (va_A [(h0, .inr (9, [.ref qm, .ref qt, .ref qw, .ref qc, .ref qb, .ref qg, .int 0, .int 0, .int 0, .int 0, .int 0]))] sz) U U.heap)) (va_Qv (fun _ : Unit => True) (fun _ t => va_P (dC, dI) vwCl [(h0, .inr (9, [.ref qm, .ref qt, .ref qw, .ref qc, .ref qb, .ref qg, .int 0, .int 0, .int 0, .int 0, .int 0]))] t.heap ∧ va_K (dC, dI) vwCl [] t ∧ va_D (va_A [(h0, .inr (9, [.ref qm, .ref qt, .ref qw, .ref qc, .ref qb, .ref qg, .int 0, .int 0, .int 0, .int 0, .int 0]))] sz) [(h0, .inr (9, [.ref qm, .ref qt, .ref qw, .ref qc, .ref qb, .ref qg, .int 0, .int 0, .int 0, .int 0, .int 0]))]) (va_A [(h0, .inr (9, [.ref qm, .ref qt, .ref qw, .ref qc, .ref qb, .ref qg, .int 0, .int 0, .int 0, .int 0, .int 0]))] sz)) 0 0 (va_A [(h0, .inr (9, [.ref qm, .ref qt, .ref qw, .ref qc, .ref qb, .ref qg, .int 0, .int 0, .int 0, .int 0, .int 0]))] sz) := by
  refine Met.ofW (cc := cX7_requireRoomForMachine) (maxL := 1) (ret := none) (by decide) rfl ?_
  intro p e s m args below meth c s₁ B hml hv
  obtain ⟨rfl, hsz, hP, hK, hD0, hZ⟩ := hv
  have hx := B.exec
  have hb := B.bytes
  have hr := B.returns
  have hts := atoms_spec (ws := zs_c_X7_requireRoomForMachine) B.pre
  have hown : s.vm.findClass RX7 = some m.cls := findClass_of_methodNamed B.named
  have hlocks := B.notSynchronized
  have hiX7 : ∀ w ∈ wsX70, w ∈ zs_c_X7_requireRoomForMachine := by decide +kernel
  subst hsz
  have hD := hD0.self (sz := s.heap.size)
  generalize hAe : va_A [(h0, .inr (9, [.ref qm, .ref qt, .ref qw, .ref qc, .ref qb, .ref qg, .int 0, .int 0, .int 0, .int 0, .int 0]))] s.heap.size = A at hD hZ ⊢
  have hA : ∀ q : Nat, s.heap.size ≤ q → A q := fun q h => by rw [← hAe]; exact Or.inr h
  have hS : va_S A s.heap s.heap [] := va_S.rf
  have hl := lv_entry ([.ref h0]) (n := 1) (Nat.le_of_ble_eq_true rfl)
  rw [lg_entry_eq]
  generalize (lg_sl ([.ref h0]) ++ List.replicate (1 - (lg_sl ([.ref h0])).length) Slot.unset).toArray = ls at hl ⊢
  have hl : lv_has ls 1 [(0, .ref h0)] := hl
  refine lv_aload_n hx hb dX7_requireRoomForMachine_0 rfl (lv_at hl 0 rfl) ?_
  refine va_get (D := (dC, dI)) (ci := 9) (v := .int 0) (C := RX7) (T := TX7) (N := 11) hx hb hts hiX7 hown hK hP 0 rfl rfl 6 (by decide) (hts (.fieldLink RX7 148 "Haltingale" "machineCount" "I") (by decide +kernel)) (fun _ h9 => h9) rfl dX7_requireRoomForMachine_1 ?_
  refine lv_if_lt (tgt := 16) hx hb dX7_requireRoomForMachine_4 (by decide) (fun c_1 => ?_) (fun c_1 => ?_)
  · (first | exact absurd c_1 (by decide) | exact absurd (by decide) c_1)
  refine lv_aload_n hx hb dX7_requireRoomForMachine_7 rfl (lv_at hl 0 rfl) ?_
  refine va_get (D := (dC, dI)) (ci := 9) (v := .int 0) (C := RX7) (T := TX7) (N := 11) hx hb hts hiX7 hown hK hP 0 rfl rfl 6 (by decide) (hts (.fieldLink RX7 148 "Haltingale" "machineCount" "I") (by decide +kernel)) (fun _ h9 => h9) rfl dX7_requireRoomForMachine_8 ?_
  refine lv_bipush (v := 12) hx hb dX7_requireRoomForMachine_11 (by decide) ?_
  refine lv_icmp_lt (tgt := 27) hx hb dX7_requireRoomForMachine_13 (by decide) (fun c_2 => ?_) (fun c_2 => ?_)
  rotate_left
  · (first | exact absurd c_2 (by decide) | exact absurd (by decide) c_2)
  have hP9 := hP.sub (ws' := [(h0, .inr (9, [.ref qm, .ref qt, .ref qw, .ref qc, .ref qb, .ref qg, .int 0, .int 0, .int 0, .int 0, .int 0]))]) [0] rfl
  have hD9 := hD.sub (ws' := [(h0, .inr (9, [.ref qm, .ref qt, .ref qw, .ref qc, .ref qb, .ref qg, .int 0, .int 0, .int 0, .int 0, .int 0]))]) [0] (by decide) rfl
  have hK9 := hK.sub (tys' := []) [] rfl
  refine W.widen (k := 0) (n := 0) (Nat.le_of_ble_eq_true rfl) (Nat.le_of_ble_eq_true rfl) ?_
  exact W.vret hx hb hr (fun t ht hW => ⟨⟨(), rfl, trivial, ⟨by rw [ht]; exact hP9, va_K.moved hW.alike hK9, hD9⟩⟩, hS.F ht⟩) hS.2.2 dX7_requireRoomForMachine_27

def zs_c_X7_countOfKind : List Cond := .code yX7_countOfKind cX7_countOfKind 4 (some .int) :: (([.fieldLink RX7 148 "Haltingale" "machineCount" "I"] : List Cond) ++ wsX70)
set_option maxHeartbeats 4000000 in
set_option maxRecDepth 100000 in
/-- none of a kind -/
theorem c_X7_countOfKind (l : Launch) (hnt : l.stackTraces = false) (dC : Nat → ClassId) (dI : Nat → Nat → Nat) (a0 : Nat) (h0 : Nat) (qm : Nat) (qt : Nat) (qw : Nat) (qc : Nat) (qb : Nat) (qg : Nat) (p0 : Int32) (sz : Nat)  : Met l yX7_countOfKind zs_c_X7_countOfKind ({ frames := 0, cells := 0, slots := 0, locals := 0 }) (va_Pc [.ref h0, .int p0] (fun U => U.heap.size = sz ∧ va_P (dC, dI) vwCl [(h0, .inr (9, [.ref qm, .ref qt, .ref qw, .ref qc, .ref qb, .ref qg, .int 0, .int 0, .int 0, .int 0, .int 0]))] U.heap ∧ va_K (dC, dI) vwCl [] U ∧ va_D (fun _ => True) [(h0, .inr (9, [.ref qm, .ref qt, .ref qw, .ref qc, .ref qb, .ref qg, .int 0, .int 0, .int 0, .int 0, .int 0]))] ∧ zB a0 (va_A [(h0, .inr (9, [.ref qm, .ref qt, .ref qw, .ref qc, .ref qb, .ref qg, .int 0, .int 0, .int 0, .int 0, .int 0]))] sz) U U.heap)) (va_Qi (fun (r : Int32) (_ : Unit) => r = 0) (fun _ t => va_P (dC, dI) vwCl [(h0, .inr (9, [.ref qm, .ref qt, .ref qw, .ref qc, .ref qb, .ref qg, .int 0, .int 0, .int 0, .int 0, .int 0]))] t.heap ∧ va_K (dC, dI) vwCl [] t ∧ va_D (va_A [(h0, .inr (9, [.ref qm, .ref qt, .ref qw, .ref qc, .ref qb, .ref qg, .int 0, .int 0, .int 0, .int 0, .int 0]))] sz) [(h0, .inr (9, [.ref qm, .ref qt, .ref qw, .ref qc, .ref qb, .ref qg, .int 0, .int 0, .int 0, .int 0, .int 0]))]) (va_A [(h0, .inr (9, [.ref qm, .ref qt, .ref qw, .ref qc, .ref qb, .ref qg, .int 0, .int 0, .int 0, .int 0, .int 0]))] sz)) 0 0 (va_A [(h0, .inr (9, [.ref qm, .ref qt, .ref qw, .ref qc, .ref qb, .ref qg, .int 0, .int 0, .int 0, .int 0, .int 0]))] sz) := by
  refine Met.ofW (cc := cX7_countOfKind) (maxL := 4) (ret := (some .int)) (by decide) rfl ?_
  intro p e s m args below meth c s₁ B hml hv
  obtain ⟨rfl, hsz, hP, hK, hD0, hZ⟩ := hv
  have hx := B.exec
  have hb := B.bytes
  have hr := B.returns
  have hts := atoms_spec (ws := zs_c_X7_countOfKind) B.pre
  have hown : s.vm.findClass RX7 = some m.cls := findClass_of_methodNamed B.named
  have hlocks := B.notSynchronized
  have hiX7 : ∀ w ∈ wsX70, w ∈ zs_c_X7_countOfKind := by decide +kernel
  subst hsz
  have hD := hD0.self (sz := s.heap.size)
  generalize hAe : va_A [(h0, .inr (9, [.ref qm, .ref qt, .ref qw, .ref qc, .ref qb, .ref qg, .int 0, .int 0, .int 0, .int 0, .int 0]))] s.heap.size = A at hD hZ ⊢
  have hA : ∀ q : Nat, s.heap.size ≤ q → A q := fun q h => by rw [← hAe]; exact Or.inr h
  have hS : va_S A s.heap s.heap [] := va_S.rf
  have hl := lv_entry ([.ref h0, .int p0]) (n := 4) (Nat.le_of_ble_eq_true rfl)
  rw [lg_entry_eq]
  generalize (lg_sl ([.ref h0, .int p0]) ++ List.replicate (4 - (lg_sl ([.ref h0, .int p0])).length) Slot.unset).toArray = ls at hl ⊢
  have hl : lv_has ls 4 [(0, .ref h0), (1, .int p0)] := hl
  refine lv_iconst (v := 0) hx hb dX7_countOfKind_0 (by decide) ?_
  refine lv_istore_n (lv' := [(2, .int 0), (0, .ref h0), (1, .int p0)]) hx hb dX7_countOfKind_1 rfl hl (by decide) rfl (fun ls hl => ?_)
  refine lv_iconst (v := 0) hx hb dX7_countOfKind_2 (by decide) ?_
  refine lv_istore_n (lv' := [(3, .int 0), (2, .int 0), (0, .ref h0), (1, .int p0)]) hx hb dX7_countOfKind_3 rfl hl (by decide) rfl (fun ls hl => ?_)
  refine lv_iload_n hx hb dX7_countOfKind_4 rfl (lv_at hl 0 rfl) ?_
  refine lv_aload_n hx hb dX7_countOfKind_5 rfl (lv_at hl 2 rfl) ?_
  refine va_get (D := (dC, dI)) (ci := 9) (v := .int 0) (C := RX7) (T := TX7) (N := 11) hx hb hts hiX7 hown hK hP 0 rfl rfl 6 (by decide) (hts (.fieldLink RX7 148 "Haltingale" "machineCount" "I") (by decide +kernel)) (fun _ h9 => h9) rfl dX7_countOfKind_6 ?_
  refine lv_icmp_ge (tgt := 33) hx hb dX7_countOfKind_9 (by decide) (fun c_1 => ?_) (fun c_1 => ?_)
  rotate_left
  · (first | exact absurd c_1 (by decide) | exact absurd (by decide) c_1)
  refine lv_iload_n hx hb dX7_countOfKind_33 rfl (lv_at hl 1 rfl) ?_
  have hP9 := hP.sub (ws' := [(h0, .inr (9, [.ref qm, .ref qt, .ref qw, .ref qc, .ref qb, .ref qg, .int 0, .int 0, .int 0, .int 0, .int 0]))]) [0] rfl
  have hD9 := hD.sub (ws' := [(h0, .inr (9, [.ref qm, .ref qt, .ref qw, .ref qc, .ref qb, .ref qg, .int 0, .int 0, .int 0, .int 0, .int 0]))]) [0] (by decide) rfl
  have hK9 := hK.sub (tys' := []) [] rfl
  refine W.widen (k := 0) (n := 0) (Nat.le_of_ble_eq_true rfl) (Nat.le_of_ble_eq_true rfl) ?_
  exact W.iret (v := 0) hx hb hr (fun t ht hW => ⟨⟨0, (), rfl, rfl, ⟨by rw [ht]; exact hP9, va_K.moved hW.alike hK9, hD9⟩⟩, hS.F ht⟩) hS.2.2 dX7_countOfKind_34

def zs_c_X7_countEmptyCells : List Cond := .code yX7_countEmptyCells cX7_countEmptyCells 3 (some .int) :: (([.fieldLink RX7 148 "Haltingale" "machineCount" "I"] : List Cond) ++ wsX70)
set_option maxHeartbeats 4000000 in
set_option maxRecDepth 100000 in
/-- no cell -/
theorem c_X7_countEmptyCells (l : Launch) (hnt : l.stackTraces = false) (dC : Nat → ClassId) (dI : Nat → Nat → Nat) (a0 : Nat) (h0 : Nat) (qm : Nat) (qt : Nat) (qw : Nat) (qc : Nat) (qb : Nat) (qg : Nat) (sz : Nat)  : Met l yX7_countEmptyCells zs_c_X7_countEmptyCells ({ frames := 0, cells := 0, slots := 0, locals := 0 }) (va_Pc [.ref h0] (fun U => U.heap.size = sz ∧ va_P (dC, dI) vwCl [(h0, .inr (9, [.ref qm, .ref qt, .ref qw, .ref qc, .ref qb, .ref qg, .int 0, .int 0, .int 0, .int 0, .int 0]))] U.heap ∧ va_K (dC, dI) vwCl [] U ∧ va_D (fun _ => True) [(h0, .inr (9, [.ref qm, .ref qt, .ref qw, .ref qc, .ref qb, .ref qg, .int 0, .int 0, .int 0, .int 0, .int 0]))] ∧ zB a0 (va_A [(h0, .inr (9, [.ref qm, .ref qt, .ref qw, .ref qc, .ref qb, .ref qg, .int 0, .int 0, .int 0, .int 0, .int 0]))] sz) U U.heap)) (va_Qi (fun (r : Int32) (_ : Unit) => r = 0) (fun _ t => va_P (dC, dI) vwCl [(h0, .inr (9, [.ref qm, .ref qt, .ref qw, .ref qc, .ref qb, .ref qg, .int 0, .int 0, .int 0, .int 0, .int 0]))] t.heap ∧ va_K (dC, dI) vwCl [] t ∧ va_D (va_A [(h0, .inr (9, [.ref qm, .ref qt, .ref qw, .ref qc, .ref qb, .ref qg, .int 0, .int 0, .int 0, .int 0, .int 0]))] sz) [(h0, .inr (9, [.ref qm, .ref qt, .ref qw, .ref qc, .ref qb, .ref qg, .int 0, .int 0, .int 0, .int 0, .int 0]))]) (va_A [(h0, .inr (9, [.ref qm, .ref qt, .ref qw, .ref qc, .ref qb, .ref qg, .int 0, .int 0, .int 0, .int 0, .int 0]))] sz)) 0 0 (va_A [(h0, .inr (9, [.ref qm, .ref qt, .ref qw, .ref qc, .ref qb, .ref qg, .int 0, .int 0, .int 0, .int 0, .int 0]))] sz) := by
  refine Met.ofW (cc := cX7_countEmptyCells) (maxL := 3) (ret := (some .int)) (by decide) rfl ?_
  intro p e s m args below meth c s₁ B hml hv
  obtain ⟨rfl, hsz, hP, hK, hD0, hZ⟩ := hv
  have hx := B.exec
  have hb := B.bytes
  have hr := B.returns
  have hts := atoms_spec (ws := zs_c_X7_countEmptyCells) B.pre
  have hown : s.vm.findClass RX7 = some m.cls := findClass_of_methodNamed B.named
  have hlocks := B.notSynchronized
  have hiX7 : ∀ w ∈ wsX70, w ∈ zs_c_X7_countEmptyCells := by decide +kernel
  subst hsz
  have hD := hD0.self (sz := s.heap.size)
  generalize hAe : va_A [(h0, .inr (9, [.ref qm, .ref qt, .ref qw, .ref qc, .ref qb, .ref qg, .int 0, .int 0, .int 0, .int 0, .int 0]))] s.heap.size = A at hD hZ ⊢
  have hA : ∀ q : Nat, s.heap.size ≤ q → A q := fun q h => by rw [← hAe]; exact Or.inr h
  have hS : va_S A s.heap s.heap [] := va_S.rf
  have hl := lv_entry ([.ref h0]) (n := 3) (Nat.le_of_ble_eq_true rfl)
  rw [lg_entry_eq]
  generalize (lg_sl ([.ref h0]) ++ List.replicate (3 - (lg_sl ([.ref h0])).length) Slot.unset).toArray = ls at hl ⊢
  have hl : lv_has ls 3 [(0, .ref h0)] := hl
  refine lv_iconst (v := 0) hx hb dX7_countEmptyCells_0 (by decide) ?_
  refine lv_istore_n (lv' := [(1, .int 0), (0, .ref h0)]) hx hb dX7_countEmptyCells_1 rfl hl (by decide) rfl (fun ls hl => ?_)
  refine lv_iconst (v := 0) hx hb dX7_countEmptyCells_2 (by decide) ?_
  refine lv_istore_n (lv' := [(2, .int 0), (1, .int 0), (0, .ref h0)]) hx hb dX7_countEmptyCells_3 rfl hl (by decide) rfl (fun ls hl => ?_)
  refine lv_iload_n hx hb dX7_countEmptyCells_4 rfl (lv_at hl 0 rfl) ?_
  refine lv_aload_n hx hb dX7_countEmptyCells_5 rfl (lv_at hl 2 rfl) ?_
  refine va_get (D := (dC, dI)) (ci := 9) (v := .int 0) (C := RX7) (T := TX7) (N := 11) hx hb hts hiX7 hown hK hP 0 rfl rfl 6 (by decide) (hts (.fieldLink RX7 148 "Haltingale" "machineCount" "I") (by decide +kernel)) (fun _ h9 => h9) rfl dX7_countEmptyCells_6 ?_
  refine lv_icmp_ge (tgt := 29) hx hb dX7_countEmptyCells_9 (by decide) (fun c_1 => ?_) (fun c_1 => ?_)
  rotate_left
  · (first | exact absurd c_1 (by decide) | exact absurd (by decide) c_1)
  refine lv_iload_n hx hb dX7_countEmptyCells_29 rfl (lv_at hl 1 rfl) ?_
  have hP9 := hP.sub (ws' := [(h0, .inr (9, [.ref qm, .ref qt, .ref qw, .ref qc, .ref qb, .ref qg, .int 0, .int 0, .int 0, .int 0, .int 0]))]) [0] rfl
  have hD9 := hD.sub (ws' := [(h0, .inr (9, [.ref qm, .ref qt, .ref qw, .ref qc, .ref qb, .ref qg, .int 0, .int 0, .int 0, .int 0, .int 0]))]) [0] (by decide) rfl
  have hK9 := hK.sub (tys' := []) [] rfl
  refine W.widen (k := 0) (n := 0) (Nat.le_of_ble_eq_true rfl) (Nat.le_of_ble_eq_true rfl) ?_
  exact W.iret (v := 0) hx hb hr (fun t ht hW => ⟨⟨0, (), rfl, rfl, ⟨by rw [ht]; exact hP9, va_K.moved hW.alike hK9, hD9⟩⟩, hS.F ht⟩) hS.2.2 dX7_countEmptyCells_30

def zs_c_X7_tell : List Cond := .code yX7_tell cX7_tell 9 (some .int) :: (([.code yX7_find cX7_find 3 (some (.object "Haltingale$Machine")), .classLink RX7 301 "java/lang/IndexOutOfBoundsException", .initialized "java/lang/IndexOutOfBoundsException", .fieldLink RX7 148 "Haltingale" "machineCount" "I", .methodLink RX7 67 yX7_find, .instanceMethod yX7_find, .initialized RX7, .selects RX7 yX7_find yX7_find] : List Cond) ++ (vx_atS RX7 305 "java/lang/IndexOutOfBoundsException" ["java/lang/RuntimeException", "java/lang/Exception"]).filter goodWord ++ wsX70)
set_option maxHeartbeats 4000000 in
set_option maxRecDepth 100000 in
/-- tell of no machine -/
theorem c_X7_tell (l : Launch) (hnt : l.stackTraces = false) (dC : Nat → ClassId) (dI : Nat → Nat → Nat) (a0 : Nat) (h0 : Nat) (qm : Nat) (qt : Nat) (qw : Nat) (qc : Nat) (qb : Nat) (qg : Nat) (p0 : Int32) (p1 : Int32) (p2 : Int32) (p3 : Int32) (p4 : Int32) (p5 : Int32) (sz : Nat)  : vx_Met l yX7_tell zs_c_X7_tell ({ frames := 7, cells := 1, slots := 6, locals := 104 }) (va_Pc [.ref h0, .int p0, .int p1, .int p2, .int p3, .int p4, .int p5] (fun U => U.heap.size = sz ∧ va_P (dC, dI) vwCl [(h0, .inr (9, [.ref qm, .ref qt, .ref qw, .ref qc, .ref qb, .ref qg, .int 0, .int 0, .int 0, .int 0, .int 0]))] U.heap ∧ va_K (dC, dI) vwCl [] U ∧ va_D (fun _ => True) [(h0, .inr (9, [.ref qm, .ref qt, .ref qw, .ref qc, .ref qb, .ref qg, .int 0, .int 0, .int 0, .int 0, .int 0]))] ∧ zB a0 (va_A [(h0, .inr (9, [.ref qm, .ref qt, .ref qw, .ref qc, .ref qb, .ref qg, .int 0, .int 0, .int 0, .int 0, .int 0]))] sz) U U.heap)) (va_Qi (fun (r : Int32) (_ : Unit) => True) (fun _ t => False) (va_A [(h0, .inr (9, [.ref qm, .ref qt, .ref qw, .ref qc, .ref qb, .ref qg, .int 0, .int 0, .int 0, .int 0, .int 0]))] sz)) (vx_X (fun _ : Unit => True) (fun E _ _ => E = "java/lang/IndexOutOfBoundsException") (va_A [(h0, .inr (9, [.ref qm, .ref qt, .ref qw, .ref qc, .ref qb, .ref qg, .int 0, .int 0, .int 0, .int 0, .int 0]))] sz)) 1 6 (va_A [(h0, .inr (9, [.ref qm, .ref qt, .ref qw, .ref qc, .ref qb, .ref qg, .int 0, .int 0, .int 0, .int 0, .int 0]))] sz) := by
  refine vx_ofW (cc := cX7_tell) (maxL := 9) (ret := (some .int)) (by decide) rfl ?_
  intro p e s m args below meth c s₁ B hml hout hv
  obtain ⟨rfl, hsz, hP, hK, hD0, hZ⟩ := hv
  have hx := B.exec
  have hb := B.bytes
  have hr := B.returns
  have hts := atoms_spec (ws := zs_c_X7_tell) B.pre
  have hown : s.vm.findClass RX7 = some m.cls := findClass_of_methodNamed B.named
  have hlocks := B.notSynchronized
  subst hsz
  have hD := hD0.self (sz := s.heap.size)
  generalize hAe : va_A [(h0, .inr (9, [.ref qm, .ref qt, .ref qw, .ref qc, .ref qb, .ref qg, .int 0, .int 0, .int 0, .int 0, .int 0]))] s.heap.size = A at hD hZ ⊢
  have hA : ∀ q : Nat, s.heap.size ≤ q → A q := fun q h => by rw [← hAe]; exact Or.inr h
  have hS : va_S A s.heap s.heap [] := va_S.rf
  have hl := lv_entry ([.ref h0, .int p0, .int p1, .int p2, .int p3, .int p4, .int p5]) (n := 9) (Nat.le_of_ble_eq_true rfl)
  rw [lg_entry_eq]
  generalize (lg_sl ([.ref h0, .int p0, .int p1, .int p2, .int p3, .int p4, .int p5]) ++ List.replicate (9 - (lg_sl ([.ref h0, .int p0, .int p1, .int p2, .int p3, .int p4, .int p5])).length) Slot.unset).toArray = ls at hl ⊢
  have hl : lv_has ls 9 [(0, .ref h0), (1, .int p0), (2, .int p1), (3, .int p2), (4, .int p3), (5, .int p4), (6, .int p5)] := hl
  refine lv_aload_n hx hb dX7_tell_0 rfl (lv_at hl 0 rfl) ?_
  refine lv_iload_n hx hb dX7_tell_1 rfl (lv_at hl 1 rfl) ?_
  have hPc := hP.sub (ws' := [(h0, .inr (9, [.ref qm, .ref qt, .ref qw, .ref qc, .ref qb, .ref qg, .int 0, .int 0, .int 0, .int 0, .int 0]))]) [0] rfl
  have hDc := hD.sub (ws' := [(h0, .inr (9, [.ref qm, .ref qt, .ref qw, .ref qc, .ref qb, .ref qg, .int 0, .int 0, .int 0, .int 0, .int 0]))]) [0] (by decide) rfl
  have hKc := hK.sub (tys' := []) [] rfl
  have hFc := va_free (wc := [(h0, .inr (9, [.ref qm, .ref qt, .ref qw, .ref qc, .ref qb, .ref qg, .int 0, .int 0, .int 0, .int 0, .int 0]))]) hD hS hA [0] rfl
  have hZc := ((hZ.kept hS.2.1).narrow hFc)
  refine zz_callr (vx_runV (As := [.int p0]) (rest := []) ⟨hx, hb, hml, hown, hts⟩ (c_X7_find l hnt dC dI a0 h0 qm qt qw qc qb qg p0 s.heap.size ) (cwV 1 hts (goodIn_of _ (by decide +kernel)) rfl rfl rfl (by decide +kernel) ⟨Nat.le_of_ble_eq_true rfl, Nat.le_of_ble_eq_true rfl⟩) ⟨fun a U g mk q => by obtain ⟨q0, q1, qP, qK, qD, qZ⟩ := q; exact ⟨q0, q1, qP, va_K.moved (u := U) (U := U.calling g mk a) (Vm.Alike.refl U.vm) qK, qD, qZ.call⟩, va_recv hKc hPc (ci := 9) (q0 := 0) rfl rfl, fun U hU hW => ⟨rfl, by rw [hU], by rw [hU]; exact hPc, va_K.moved hW.alike hKc, hDc.weaken (fun _ _ _ _ => trivial), by rw [hU]; exact hZc.warm hW⟩⟩ rfl rfl hl.1 rfl (lv_room (Nat.le_of_ble_eq_true rfl)) dX7_tell_2 ⟨Nat.le_of_ble_eq_true rfl, Nat.le_of_ble_eq_true rfl⟩) hS (fun q _ h => hFc q h) hFc (fun q _ h => hFc q h) (fun E ce q9 u t H1 locs ht hvm hw hB hz1 hk1 hS hce hcv hcl => ?_) (fun u r_1 t H1 locs ht hvm hw hB hz1 hk1 hS => ?_)
  · have hE := hB
    exact vx_out (fun x h => (hout x h).elim) hlocks hce hcv hcl (fun t2 ht2 hW2 => ⟨(), trivial, hE, hS.F ht2⟩) hS.2.2 (Nat.le_of_ble_eq_true rfl) (Nat.le_of_ble_eq_true rfl)
  exact hB.elim

def zs_c_X7_amend : List Cond := .code yX7_amend cX7_amend 9 (some .boolean) :: (([.code yX7_find cX7_find 3 (some (.object "Haltingale$Machine")), .classLink RX7 301 "java/lang/IndexOutOfBoundsException", .initialized "java/lang/IndexOutOfBoundsException", .fieldLink RX7 148 "Haltingale" "machineCount" "I", .methodLink RX7 67 yX7_find, .instanceMethod yX7_find, .initialized RX7, .selects RX7 yX7_find yX7_find] : List Cond) ++ (vx_atS RX7 305 "java/lang/IndexOutOfBoundsException" ["java/lang/RuntimeException", "java/lang/Exception"]).filter goodWord ++ wsX70)
set_option maxHeartbeats 4000000 in
set_option maxRecDepth 100000 in
/-- amend of no machine -/
theorem c_X7_amend (l : Launch) (hnt : l.stackTraces = false) (dC : Nat → ClassId) (dI : Nat → Nat → Nat) (a0 : Nat) (h0 : Nat) (qm : Nat) (qt : Nat) (qw : Nat) (qc : Nat) (qb : Nat) (qg : Nat) (p0 : Int32) (p1 : Int32) (p2 : Int32) (p3 : Int32) (p4 : Int32) (p5 : Int32) (sz : Nat)  : vx_Met l yX7_amend zs_c_X7_amend ({ frames := 7, cells := 1, slots := 6, locals := 104 }) (va_Pc [.ref h0, .int p0, .int p1, .int p2, .int p3, .int p4, .int p5] (fun U => U.heap.size = sz ∧ va_P (dC, dI) vwCl [(h0, .inr (9, [.ref qm, .ref qt, .ref qw, .ref qc, .ref qb, .ref qg, .int 0, .int 0, .int 0, .int 0, .int 0]))] U.heap ∧ va_K (dC, dI) vwCl [] U ∧ va_D (fun _ => True) [(h0, .inr (9, [.ref qm, .ref qt, .ref qw, .ref qc, .ref qb, .ref qg, .int 0, .int 0, .int 0, .int 0, .int 0]))] ∧ zB a0 (va_A [(h0, .inr (9, [.ref qm, .ref qt, .ref qw, .ref qc, .ref qb, .ref qg, .int 0, .int 0, .int 0, .int 0, .int 0]))] sz) U U.heap)) (va_Qi (fun (r : Int32) (_ : Unit) => True) (fun _ t => False) (va_A [(h0, .inr (9, [.ref qm, .ref qt, .ref qw, .ref qc, .ref qb, .ref qg, .int 0, .int 0, .int 0, .int 0, .int 0]))] sz)) (vx_X (fun _ : Unit => True) (fun E _ _ => E = "java/lang/IndexOutOfBoundsException") (va_A [(h0, .inr (9, [.ref qm, .ref qt, .ref qw, .ref qc, .ref qb, .ref qg, .int 0, .int 0, .int 0, .int 0, .int 0]))] sz)) 1 6 (va_A [(h0, .inr (9, [.ref qm, .ref qt, .ref qw, .ref qc, .ref qb, .ref qg, .int 0, .int 0, .int 0, .int 0, .int 0]))] sz) := by
  refine vx_ofW (cc := cX7_amend) (maxL := 9) (ret := (some .boolean)) (by decide) rfl ?_
  intro p e s m args below meth c s₁ B hml hout hv
  obtain ⟨rfl, hsz, hP, hK, hD0, hZ⟩ := hv
  have hx := B.exec
  have hb := B.bytes
  have hr := B.returns
  have hts := atoms_spec (ws := zs_c_X7_amend) B.pre
  have hown : s.vm.findClass RX7 = some m.cls := findClass_of_methodNamed B.named
  have hlocks := B.notSynchronized
  subst hsz
  have hD := hD0.self (sz := s.heap.size)
  generalize hAe : va_A [(h0, .inr (9, [.ref qm, .ref qt, .ref qw, .ref qc, .ref qb, .ref qg, .int 0, .int 0, .int 0, .int 0, .int 0]))] s.heap.size = A at hD hZ ⊢
  have hA : ∀ q : Nat, s.heap.size ≤ q → A q := fun q h => by rw [← hAe]; exact Or.inr h
  have hS : va_S A s.heap s.heap [] := va_S.rf
  have hl := lv_entry ([.ref h0, .int p0, .int p1, .int p2, .int p3, .int p4, .int p5]) (n := 9) (Nat.le_of_ble_eq_true rfl)
  rw [lg_entry_eq]
  generalize (lg_sl ([.ref h0, .int p0, .int p1, .int p2, .int p3, .int p4, .int p5]) ++ List.replicate (9 - (lg_sl ([.ref h0, .int p0, .int p1, .int p2, .int p3, .int p4, .int p5])).length) Slot.unset).toArray = ls at hl ⊢
  have hl : lv_has ls 9 [(0, .ref h0), (1, .int p0), (2, .int p1), (3, .int p2), (4, .int p3), (5, .int p4), (6, .int p5)] := hl
  refine lv_aload_n hx hb dX7_amend_0 rfl (lv_at hl 0 rfl) ?_
  refine lv_iload_n hx hb dX7_amend_1 rfl (lv_at hl 1 rfl) ?_
  have hPc := hP.sub (ws' := [(h0, .inr (9, [.ref qm, .ref qt, .ref qw, .ref qc, .ref qb, .ref qg, .int 0, .int 0, .int 0, .int 0, .int 0]))]) [0] rfl
  have hDc := hD.sub (ws' := [(h0, .inr (9, [.ref qm, .ref qt, .ref qw, .ref qc, .ref qb, .ref qg, .int 0, .int 0, .int 0, .int 0, .int 0]))]) [0] (by decide) rfl
  have hKc := hK.sub (tys' := []) [] rfl
  have hFc := va_free (wc := [(h0, .inr (9, [.ref qm, .ref qt, .ref qw, .ref qc, .ref qb, .ref qg, .int 0, .int 0, .int 0, .int 0, .int 0]))]) hD hS hA [0] rfl
  have hZc := ((hZ.kept hS.2.1).narrow hFc)
  refine zz_callr (vx_runV (As := [.int p0]) (rest := []) ⟨hx, hb, hml, hown, hts⟩ (c_X7_find l hnt dC dI a0 h0 qm qt qw qc qb qg p0 s.heap.size ) (cwV 1 hts (goodIn_of _ (by decide +kernel)) rfl rfl rfl (by decide +kernel) ⟨Nat.le_of_ble_eq_true rfl, Nat.le_of_ble_eq_true rfl⟩) ⟨fun a U g mk q => by obtain ⟨q0, q1, qP, qK, qD, qZ⟩ := q; exact ⟨q0, q1, qP, va_K.moved (u := U) (U := U.calling g mk a) (Vm.Alike.refl U.vm) qK, qD, qZ.call⟩, va_recv hKc hPc (ci := 9) (q0 := 0) rfl rfl, fun U hU hW => ⟨rfl, by rw [hU], by rw [hU]; exact hPc, va_K.moved hW.alike hKc, hDc.weaken (fun _ _ _ _ => trivial), by rw [hU]; exact hZc.warm hW⟩⟩ rfl rfl hl.1 rfl (lv_room (Nat.le_of_ble_eq_true rfl)) dX7_amend_2 ⟨Nat.le_of_ble_eq_true rfl, Nat.le_of_ble_eq_true rfl⟩) hS (fun q _ h => hFc q h) hFc (fun q _ h => hFc q h) (fun E ce q9 u t H1 locs ht hvm hw hB hz1 hk1 hS hce hcv hcl => ?_) (fun u r_1 t H1 locs ht hvm hw hB hz1 hk1 hS => ?_)
  · have hE := hB
    exact vx_out (fun x h => (hout x h).elim) hlocks hce hcv hcl (fun t2 ht2 hW2 => ⟨(), trivial, hE, hS.F ht2⟩) hS.2.2 (Nat.le_of_ble_eq_true rfl) (Nat.le_of_ble_eq_true rfl)
  exact hB.elim

def zs_c_X7_child : List Cond := .code yX7_child cX7_child 5 (some .int) :: (([.code yX7_find cX7_find 3 (some (.object "Haltingale$Machine")), .classLink RX7 301 "java/lang/IndexOutOfBoundsException", .initialized "java/lang/IndexOutOfBoundsException", .fieldLink RX7 148 "Haltingale" "machineCount" "I", .methodLink RX7 67 yX7_find, .instanceMethod yX7_find, .initialized RX7, .selects RX7 yX7_find yX7_find] : List Cond) ++ (vx_atS RX7 305 "java/lang/IndexOutOfBoundsException" ["java/lang/RuntimeException", "java/lang/Exception"]).filter goodWord ++ wsX70)
set_option maxHeartbeats 4000000 in
set_option maxRecDepth 100000 in
/-- child of no machine -/
theorem c_X7_child (l : Launch) (hnt : l.stackTraces = false) (dC : Nat → ClassId) (dI : Nat → Nat → Nat) (a0 : Nat) (h0 : Nat) (qm : Nat) (qt : Nat) (qw : Nat) (qc : Nat) (qb : Nat) (qg : Nat) (p0 : Int32) (p1 : Int32) (sz : Nat)  : vx_Met l yX7_child zs_c_X7_child ({ frames := 7, cells := 1, slots := 6, locals := 104 }) (va_Pc [.ref h0, .int p0, .int p1] (fun U => U.heap.size = sz ∧ va_P (dC, dI) vwCl [(h0, .inr (9, [.ref qm, .ref qt, .ref qw, .ref qc, .ref qb, .ref qg, .int 0, .int 0, .int 0, .int 0, .int 0]))] U.heap ∧ va_K (dC, dI) vwCl [] U ∧ va_D (fun _ => True) [(h0, .inr (9, [.ref qm, .ref qt, .ref qw, .ref qc, .ref qb, .ref qg, .int 0, .int 0, .int 0, .int 0, .int 0]))] ∧ zB a0 (va_A [(h0, .inr (9, [.ref qm, .ref qt, .ref qw, .ref qc, .ref qb, .ref qg, .int 0, .int 0, .int 0, .int 0, .int 0]))] sz) U U.heap)) (va_Qi (fun (r : Int32) (_ : Unit) => True) (fun _ t => False) (va_A [(h0, .inr (9, [.ref qm, .ref qt, .ref qw, .ref qc, .ref qb, .ref qg, .int 0, .int 0, .int 0, .int 0, .int 0]))] sz)) (vx_X (fun _ : Unit => True) (fun E _ _ => E = "java/lang/IndexOutOfBoundsException") (va_A [(h0, .inr (9, [.ref qm, .ref qt, .ref qw, .ref qc, .ref qb, .ref qg, .int 0, .int 0, .int 0, .int 0, .int 0]))] sz)) 1 6 (va_A [(h0, .inr (9, [.ref qm, .ref qt, .ref qw, .ref qc, .ref qb, .ref qg, .int 0, .int 0, .int 0, .int 0, .int 0]))] sz) := by
  refine vx_ofW (cc := cX7_child) (maxL := 5) (ret := (some .int)) (by decide) rfl ?_
  intro p e s m args below meth c s₁ B hml hout hv
  obtain ⟨rfl, hsz, hP, hK, hD0, hZ⟩ := hv
  have hx := B.exec
  have hb := B.bytes
  have hr := B.returns
  have hts := atoms_spec (ws := zs_c_X7_child) B.pre
  have hown : s.vm.findClass RX7 = some m.cls := findClass_of_methodNamed B.named
  have hlocks := B.notSynchronized
  subst hsz
  have hD := hD0.self (sz := s.heap.size)
  generalize hAe : va_A [(h0, .inr (9, [.ref qm, .ref qt, .ref qw, .ref qc, .ref qb, .ref qg, .int 0, .int 0, .int 0, .int 0, .int 0]))] s.heap.size = A at hD hZ ⊢
  have hA : ∀ q : Nat, s.heap.size ≤ q → A q := fun q h => by rw [← hAe]; exact Or.inr h
  have hS : va_S A s.heap s.heap [] := va_S.rf
  have hl := lv_entry ([.ref h0, .int p0, .int p1]) (n := 5) (Nat.le_of_ble_eq_true rfl)
  rw [lg_entry_eq]
  generalize (lg_sl ([.ref h0, .int p0, .int p1]) ++ List.replicate (5 - (lg_sl ([.ref h0, .int p0, .int p1])).length) Slot.unset).toArray = ls at hl ⊢
  have hl : lv_has ls 5 [(0, .ref h0), (1, .int p0), (2, .int p1)] := hl
  refine lv_aload_n hx hb dX7_child_0 rfl (lv_at hl 0 rfl) ?_
  refine lv_iload_n hx hb dX7_child_1 rfl (lv_at hl 1 rfl) ?_
  have hPc := hP.sub (ws' := [(h0, .inr (9, [.ref qm, .ref qt, .ref qw, .ref qc, .ref qb, .ref qg, .int 0, .int 0, .int 0, .int 0, .int 0]))]) [0] rfl
  have hDc := hD.sub (ws' := [(h0, .inr (9, [.ref qm, .ref qt, .ref qw, .ref qc, .ref qb, .ref qg, .int 0, .int 0, .int 0, .int 0, .int 0]))]) [0] (by decide) rfl
  have hKc := hK.sub (tys' := []) [] rfl
  have hFc := va_free (wc := [(h0, .inr (9, [.ref qm, .ref qt, .ref qw, .ref qc, .ref qb, .ref qg, .int 0, .int 0, .int 0, .int 0, .int 0]))]) hD hS hA [0] rfl
  have hZc := ((hZ.kept hS.2.1).narrow hFc)
  refine zz_callr (vx_runV (As := [.int p0]) (rest := []) ⟨hx, hb, hml, hown, hts⟩ (c_X7_find l hnt dC dI a0 h0 qm qt qw qc qb qg p0 s.heap.size ) (cwV 1 hts (goodIn_of _ (by decide +kernel)) rfl rfl rfl (by decide +kernel) ⟨Nat.le_of_ble_eq_true rfl, Nat.le_of_ble_eq_true rfl⟩) ⟨fun a U g mk q => by obtain ⟨q0, q1, qP, qK, qD, qZ⟩ := q; exact ⟨q0, q1, qP, va_K.moved (u := U) (U := U.calling g mk a) (Vm.Alike.refl U.vm) qK, qD, qZ.call⟩, va_recv hKc hPc (ci := 9) (q0 := 0) rfl rfl, fun U hU hW => ⟨rfl, by rw [hU], by rw [hU]; exact hPc, va_K.moved hW.alike hKc, hDc.weaken (fun _ _ _ _ => trivial), by rw [hU]; exact hZc.warm hW⟩⟩ rfl rfl hl.1 rfl (lv_room (Nat.le_of_ble_eq_true rfl)) dX7_child_2 ⟨Nat.le_of_ble_eq_true rfl, Nat.le_of_ble_eq_true rfl⟩) hS (fun q _ h => hFc q h) hFc (fun q _ h => hFc q h) (fun E ce q9 u t H1 locs ht hvm hw hB hz1 hk1 hS hce hcv hcl => ?_) (fun u r_1 t H1 locs ht hvm hw hB hz1 hk1 hS => ?_)
  · have hE := hB
    exact vx_out (fun x h => (hout x h).elim) hlocks hce hcv hcl (fun t2 ht2 hW2 => ⟨(), trivial, hE, hS.F ht2⟩) hS.2.2 (Nat.le_of_ble_eq_true rfl) (Nat.le_of_ble_eq_true rfl)
  exact hB.elim

def zs_c_X7_prove : List Cond := .code yX7_prove cX7_prove 6 (some .boolean) :: (([.code yX7_find cX7_find 3 (some (.object "Haltingale$Machine")), .classLink RX7 301 "java/lang/IndexOutOfBoundsException", .initialized "java/lang/IndexOutOfBoundsException", .fieldLink RX7 148 "Haltingale" "machineCount" "I", .methodLink RX7 67 yX7_find, .instanceMethod yX7_find, .initialized RX7, .selects RX7 yX7_find yX7_find] : List Cond) ++ (vx_atS RX7 305 "java/lang/IndexOutOfBoundsException" ["java/lang/RuntimeException", "java/lang/Exception"]).filter goodWord ++ wsX70)
set_option maxHeartbeats 4000000 in
set_option maxRecDepth 100000 in
/-- prove of no machine -/
theorem c_X7_prove (l : Launch) (hnt : l.stackTraces = false) (dC : Nat → ClassId) (dI : Nat → Nat → Nat) (a0 : Nat) (h0 : Nat) (qm : Nat) (qt : Nat) (qw : Nat) (qc : Nat) (qb : Nat) (qg : Nat) (p0 : Int32) (p1 : Int32) (p2 : Int32) (p3 : Int32) (sz : Nat)  : vx_Met l yX7_prove zs_c_X7_prove ({ frames := 7, cells := 1, slots := 6, locals := 104 }) (va_Pc [.ref h0, .int p0, .int p1, .int p2, .int p3] (fun U => U.heap.size = sz ∧ va_P (dC, dI) vwCl [(h0, .inr (9, [.ref qm, .ref qt, .ref qw, .ref qc, .ref qb, .ref qg, .int 0, .int 0, .int 0, .int 0, .int 0]))] U.heap ∧ va_K (dC, dI) vwCl [] U ∧ va_D (fun _ => True) [(h0, .inr (9, [.ref qm, .ref qt, .ref qw, .ref qc, .ref qb, .ref qg, .int 0, .int 0, .int 0, .int 0, .int 0]))] ∧ zB a0 (va_A [(h0, .inr (9, [.ref qm, .ref qt, .ref qw, .ref qc, .ref qb, .ref qg, .int 0, .int 0, .int 0, .int 0, .int 0]))] sz) U U.heap)) (va_Qi (fun (r : Int32) (_ : Unit) => True) (fun _ t => False) (va_A [(h0, .inr (9, [.ref qm, .ref qt, .ref qw, .ref qc, .ref qb, .ref qg, .int 0, .int 0, .int 0, .int 0, .int 0]))] sz)) (vx_X (fun _ : Unit => True) (fun E _ _ => E = "java/lang/IndexOutOfBoundsException") (va_A [(h0, .inr (9, [.ref qm, .ref qt, .ref qw, .ref qc, .ref qb, .ref qg, .int 0, .int 0, .int 0, .int 0, .int 0]))] sz)) 1 6 (va_A [(h0, .inr (9, [.ref qm, .ref qt, .ref qw, .ref qc, .ref qb, .ref qg, .int 0, .int 0, .int 0, .int 0, .int 0]))] sz) := by
  refine vx_ofW (cc := cX7_prove) (maxL := 6) (ret := (some .boolean)) (by decide) rfl ?_
  intro p e s m args below meth c s₁ B hml hout hv
  obtain ⟨rfl, hsz, hP, hK, hD0, hZ⟩ := hv
  have hx := B.exec
  have hb := B.bytes
  have hr := B.returns
  have hts := atoms_spec (ws := zs_c_X7_prove) B.pre
  have hown : s.vm.findClass RX7 = some m.cls := findClass_of_methodNamed B.named
  have hlocks := B.notSynchronized
  subst hsz
  have hD := hD0.self (sz := s.heap.size)
  generalize hAe : va_A [(h0, .inr (9, [.ref qm, .ref qt, .ref qw, .ref qc, .ref qb, .ref qg, .int 0, .int 0, .int 0, .int 0, .int 0]))] s.heap.size = A at hD hZ ⊢
  have hA : ∀ q : Nat, s.heap.size ≤ q → A q := fun q h => by rw [← hAe]; exact Or.inr h
  have hS : va_S A s.heap s.heap [] := va_S.rf
  have hl := lv_entry ([.ref h0, .int p0, .int p1, .int p2, .int p3]) (n := 6) (Nat.le_of_ble_eq_true rfl)
  rw [lg_entry_eq]
  generalize (lg_sl ([.ref h0, .int p0, .int p1, .int p2, .int p3]) ++ List.replicate (6 - (lg_sl ([.ref h0, .int p0, .int p1, .int p2, .int p3])).length) Slot.unset).toArray = ls at hl ⊢
  have hl : lv_has ls 6 [(0, .ref h0), (1, .int p0), (2, .int p1), (3, .int p2), (4, .int p3)] := hl
  refine lv_aload_n hx hb dX7_prove_0 rfl (lv_at hl 0 rfl) ?_
  refine lv_iload_n hx hb dX7_prove_1 rfl (lv_at hl 1 rfl) ?_
  have hPc := hP.sub (ws' := [(h0, .inr (9, [.ref qm, .ref qt, .ref qw, .ref qc, .ref qb, .ref qg, .int 0, .int 0, .int 0, .int 0, .int 0]))]) [0] rfl
  have hDc := hD.sub (ws' := [(h0, .inr (9, [.ref qm, .ref qt, .ref qw, .ref qc, .ref qb, .ref qg, .int 0, .int 0, .int 0, .int 0, .int 0]))]) [0] (by decide) rfl
  have hKc := hK.sub (tys' := []) [] rfl
  have hFc := va_free (wc := [(h0, .inr (9, [.ref qm, .ref qt, .ref qw, .ref qc, .ref qb, .ref qg, .int 0, .int 0, .int 0, .int 0, .int 0]))]) hD hS hA [0] rfl
  have hZc := ((hZ.kept hS.2.1).narrow hFc)
  refine zz_callr (vx_runV (As := [.int p0]) (rest := []) ⟨hx, hb, hml, hown, hts⟩ (c_X7_find l hnt dC dI a0 h0 qm qt qw qc qb qg p0 s.heap.size ) (cwV 1 hts (goodIn_of _ (by decide +kernel)) rfl rfl rfl (by decide +kernel) ⟨Nat.le_of_ble_eq_true rfl, Nat.le_of_ble_eq_true rfl⟩) ⟨fun a U g mk q => by obtain ⟨q0, q1, qP, qK, qD, qZ⟩ := q; exact ⟨q0, q1, qP, va_K.moved (u := U) (U := U.calling g mk a) (Vm.Alike.refl U.vm) qK, qD, qZ.call⟩, va_recv hKc hPc (ci := 9) (q0 := 0) rfl rfl, fun U hU hW => ⟨rfl, by rw [hU], by rw [hU]; exact hPc, va_K.moved hW.alike hKc, hDc.weaken (fun _ _ _ _ => trivial), by rw [hU]; exact hZc.warm hW⟩⟩ rfl rfl hl.1 rfl (lv_room (Nat.le_of_ble_eq_true rfl)) dX7_prove_2 ⟨Nat.le_of_ble_eq_true rfl, Nat.le_of_ble_eq_true rfl⟩) hS (fun q _ h => hFc q h) hFc (fun q _ h => hFc q h) (fun E ce q9 u t H1 locs ht hvm hw hB hz1 hk1 hS hce hcv hcl => ?_) (fun u r_1 t H1 locs ht hvm hw hB hz1 hk1 hS => ?_)
  · have hE := hB
    exact vx_out (fun x h => (hout x h).elim) hlocks hce hcv hcl (fun t2 ht2 hW2 => ⟨(), trivial, hE, hS.F ht2⟩) hS.2.2 (Nat.le_of_ble_eq_true rfl) (Nat.le_of_ble_eq_true rfl)
  exact hB.elim

def zs_c_X7_decide : List Cond := .code yX7_decide cX7_decide 6 (some .int) :: (([.code yX7_find cX7_find 3 (some (.object "Haltingale$Machine")), .classLink RX7 301 "java/lang/IndexOutOfBoundsException", .initialized "java/lang/IndexOutOfBoundsException", .fieldLink RX7 148 "Haltingale" "machineCount" "I", .methodLink RX7 67 yX7_find, .instanceMethod yX7_find, .initialized RX7, .selects RX7 yX7_find yX7_find] : List Cond) ++ (vx_atS RX7 305 "java/lang/IndexOutOfBoundsException" ["java/lang/RuntimeException", "java/lang/Exception"]).filter goodWord ++ wsX70)
set_option maxHeartbeats 4000000 in
set_option maxRecDepth 100000 in
/-- decide of no machine -/
theorem c_X7_decide (l : Launch) (hnt : l.stackTraces = false) (dC : Nat → ClassId) (dI : Nat → Nat → Nat) (a0 : Nat) (h0 : Nat) (qm : Nat) (qt : Nat) (qw : Nat) (qc : Nat) (qb : Nat) (qg : Nat) (p0 : Int32) (sz : Nat)  : vx_Met l yX7_decide zs_c_X7_decide ({ frames := 7, cells := 1, slots := 6, locals := 104 }) (va_Pc [.ref h0, .int p0] (fun U => U.heap.size = sz ∧ va_P (dC, dI) vwCl [(h0, .inr (9, [.ref qm, .ref qt, .ref qw, .ref qc, .ref qb, .ref qg, .int 0, .int 0, .int 0, .int 0, .int 0]))] U.heap ∧ va_K (dC, dI) vwCl [] U ∧ va_D (fun _ => True) [(h0, .inr (9, [.ref qm, .ref qt, .ref qw, .ref qc, .ref qb, .ref qg, .int 0, .int 0, .int 0, .int 0, .int 0]))] ∧ zB a0 (va_A [(h0, .inr (9, [.ref qm, .ref qt, .ref qw, .ref qc, .ref qb, .ref qg, .int 0, .int 0, .int 0, .int 0, .int 0]))] sz) U U.heap)) (va_Qi (fun (r : Int32) (_ : Unit) => True) (fun _ t => False) (va_A [(h0, .inr (9, [.ref qm, .ref qt, .ref qw, .ref qc, .ref qb, .ref qg, .int 0, .int 0, .int 0, .int 0, .int 0]))] sz)) (vx_X (fun _ : Unit => True) (fun E _ _ => E = "java/lang/IndexOutOfBoundsException") (va_A [(h0, .inr (9, [.ref qm, .ref qt, .ref qw, .ref qc, .ref qb, .ref qg, .int 0, .int 0, .int 0, .int 0, .int 0]))] sz)) 1 6 (va_A [(h0, .inr (9, [.ref qm, .ref qt, .ref qw, .ref qc, .ref qb, .ref qg, .int 0, .int 0, .int 0, .int 0, .int 0]))] sz) := by
  refine vx_ofW (cc := cX7_decide) (maxL := 6) (ret := (some .int)) (by decide) rfl ?_
  intro p e s m args below meth c s₁ B hml hout hv
  obtain ⟨rfl, hsz, hP, hK, hD0, hZ⟩ := hv
  have hx := B.exec
  have hb := B.bytes
  have hr := B.returns
  have hts := atoms_spec (ws := zs_c_X7_decide) B.pre
  have hown : s.vm.findClass RX7 = some m.cls := findClass_of_methodNamed B.named
  have hlocks := B.notSynchronized
  subst hsz
  have hD := hD0.self (sz := s.heap.size)
  generalize hAe : va_A [(h0, .inr (9, [.ref qm, .ref qt, .ref qw, .ref qc, .ref qb, .ref qg, .int 0, .int 0, .int 0, .int 0, .int 0]))] s.heap.size = A at hD hZ ⊢
  have hA : ∀ q : Nat, s.heap.size ≤ q → A q := fun q h => by rw [← hAe]; exact Or.inr h
  have hS : va_S A s.heap s.heap [] := va_S.rf
  have hl := lv_entry ([.ref h0, .int p0]) (n := 6) (Nat.le_of_ble_eq_true rfl)
  rw [lg_entry_eq]
  generalize (lg_sl ([.ref h0, .int p0]) ++ List.replicate (6 - (lg_sl ([.ref h0, .int p0])).length) Slot.unset).toArray = ls at hl ⊢
  have hl : lv_has ls 6 [(0, .ref h0), (1, .int p0)] := hl
  refine lv_aload_n hx hb dX7_decide_0 rfl (lv_at hl 0 rfl) ?_
  refine lv_iload_n hx hb dX7_decide_1 rfl (lv_at hl 1 rfl) ?_
  have hPc := hP.sub (ws' := [(h0, .inr (9, [.ref qm, .ref qt, .ref qw, .ref qc, .ref qb, .ref qg, .int 0, .int 0, .int 0, .int 0, .int 0]))]) [0] rfl
  have hDc := hD.sub (ws' := [(h0, .inr (9, [.ref qm, .ref qt, .ref qw, .ref qc, .ref qb, .ref qg, .int 0, .int 0, .int 0, .int 0, .int 0]))]) [0] (by decide) rfl
  have hKc := hK.sub (tys' := []) [] rfl
  have hFc := va_free (wc := [(h0, .inr (9, [.ref qm, .ref qt, .ref qw, .ref qc, .ref qb, .ref qg, .int 0, .int 0, .int 0, .int 0, .int 0]))]) hD hS hA [0] rfl
  have hZc := ((hZ.kept hS.2.1).narrow hFc)
  refine zz_callr (vx_runV (As := [.int p0]) (rest := []) ⟨hx, hb, hml, hown, hts⟩ (c_X7_find l hnt dC dI a0 h0 qm qt qw qc qb qg p0 s.heap.size ) (cwV 1 hts (goodIn_of _ (by decide +kernel)) rfl rfl rfl (by decide +kernel) ⟨Nat.le_of_ble_eq_true rfl, Nat.le_of_ble_eq_true rfl⟩) ⟨fun a U g mk q => by obtain ⟨q0, q1, qP, qK, qD, qZ⟩ := q; exact ⟨q0, q1, qP, va_K.moved (u := U) (U := U.calling g mk a) (Vm.Alike.refl U.vm) qK, qD, qZ.call⟩, va_recv hKc hPc (ci := 9) (q0 := 0) rfl rfl, fun U hU hW => ⟨rfl, by rw [hU], by rw [hU]; exact hPc, va_K.moved hW.alike hKc, hDc.weaken (fun _ _ _ _ => trivial), by rw [hU]; exact hZc.warm hW⟩⟩ rfl rfl hl.1 rfl (lv_room (Nat.le_of_ble_eq_true rfl)) dX7_decide_2 ⟨Nat.le_of_ble_eq_true rfl, Nat.le_of_ble_eq_true rfl⟩) hS (fun q _ h => hFc q h) hFc (fun q _ h => hFc q h) (fun E ce q9 u t H1 locs ht hvm hw hB hz1 hk1 hS hce hcv hcl => ?_) (fun u r_1 t H1 locs ht hvm hw hB hz1 hk1 hS => ?_)
  · have hE := hB
    exact vx_out (fun x h => (hout x h).elim) hlocks hce hcv hcl (fun t2 ht2 hW2 => ⟨(), trivial, hE, hS.F ht2⟩) hS.2.2 (Nat.le_of_ble_eq_true rfl) (Nat.le_of_ble_eq_true rfl)
  exact hB.elim

def zs_c_X7_cell : List Cond := .code yX7_cell cX7_cell 7 (some .int) :: (([.code yX7_find cX7_find 3 (some (.object "Haltingale$Machine")), .classLink RX7 301 "java/lang/IndexOutOfBoundsException", .initialized "java/lang/IndexOutOfBoundsException", .fieldLink RX7 148 "Haltingale" "machineCount" "I", .methodLink RX7 67 yX7_find, .instanceMethod yX7_find, .initialized RX7, .selects RX7 yX7_find yX7_find] : List Cond) ++ (vx_atS RX7 305 "java/lang/IndexOutOfBoundsException" ["java/lang/RuntimeException", "java/lang/Exception"]).filter goodWord ++ wsX70)
set_option maxHeartbeats 4000000 in
set_option maxRecDepth 100000 in
/-- cell of no machine -/
theorem c_X7_cell (l : Launch) (hnt : l.stackTraces = false) (dC : Nat → ClassId) (dI : Nat → Nat → Nat) (a0 : Nat) (h0 : Nat) (qm : Nat) (qt : Nat) (qw : Nat) (qc : Nat) (qb : Nat) (qg : Nat) (p0 : Int32) (p1 : Int32) (p2 : Int32) (p3 : Int32) (sz : Nat)  : vx_Met l yX7_cell zs_c_X7_cell ({ frames := 7, cells := 1, slots := 6, locals := 104 }) (va_Pc [.ref h0, .int p0, .int p1, .int p2, .int p3] (fun U => U.heap.size = sz ∧ va_P (dC, dI) vwCl [(h0, .inr (9, [.ref qm, .ref qt, .ref qw, .ref qc, .ref qb, .ref qg, .int 0, .int 0, .int 0, .int 0, .int 0]))] U.heap ∧ va_K (dC, dI) vwCl [] U ∧ va_D (fun _ => True) [(h0, .inr (9, [.ref qm, .ref qt, .ref qw, .ref qc, .ref qb, .ref qg, .int 0, .int 0, .int 0, .int 0, .int 0]))] ∧ zB a0 (va_A [(h0, .inr (9, [.ref qm, .ref qt, .ref qw, .ref qc, .ref qb, .ref qg, .int 0, .int 0, .int 0, .int 0, .int 0]))] sz) U U.heap)) (va_Qi (fun (r : Int32) (_ : Unit) => True) (fun _ t => False) (va_A [(h0, .inr (9, [.ref qm, .ref qt, .ref qw, .ref qc, .ref qb, .ref qg, .int 0, .int 0, .int 0, .int 0, .int 0]))] sz)) (vx_X (fun _ : Unit => True) (fun E _ _ => E = "java/lang/IndexOutOfBoundsException") (va_A [(h0, .inr (9, [.ref qm, .ref qt, .ref qw, .ref qc, .ref qb, .ref qg, .int 0, .int 0, .int 0, .int 0, .int 0]))] sz)) 1 6 (va_A [(h0, .inr (9, [.ref qm, .ref qt, .ref qw, .ref qc, .ref qb, .ref qg, .int 0, .int 0, .int 0, .int 0, .int 0]))] sz) := by
  refine vx_ofW (cc := cX7_cell) (maxL := 7) (ret := (some .int)) (by decide) rfl ?_
  intro p e s m args below meth c s₁ B hml hout hv
  obtain ⟨rfl, hsz, hP, hK, hD0, hZ⟩ := hv
  have hx := B.exec
  have hb := B.bytes
  have hr := B.returns
  have hts := atoms_spec (ws := zs_c_X7_cell) B.pre
  have hown : s.vm.findClass RX7 = some m.cls := findClass_of_methodNamed B.named
  have hlocks := B.notSynchronized
  subst hsz
  have hD := hD0.self (sz := s.heap.size)
  generalize hAe : va_A [(h0, .inr (9, [.ref qm, .ref qt, .ref qw, .ref qc, .ref qb, .ref qg, .int 0, .int 0, .int 0, .int 0, .int 0]))] s.heap.size = A at hD hZ ⊢
  have hA : ∀ q : Nat, s.heap.size ≤ q → A q := fun q h => by rw [← hAe]; exact Or.inr h
  have hS : va_S A s.heap s.heap [] := va_S.rf
  have hl := lv_entry ([.ref h0, .int p0, .int p1, .int p2, .int p3]) (n := 7) (Nat.le_of_ble_eq_true rfl)
  rw [lg_entry_eq]
  generalize (lg_sl ([.ref h0, .int p0, .int p1, .int p2, .int p3]) ++ List.replicate (7 - (lg_sl ([.ref h0, .int p0, .int p1, .int p2, .int p3])).length) Slot.unset).toArray = ls at hl ⊢
  have hl : lv_has ls 7 [(0, .ref h0), (1, .int p0), (2, .int p1), (3, .int p2), (4, .int p3)] := hl
  refine lv_aload_n hx hb dX7_cell_0 rfl (lv_at hl 0 rfl) ?_
  refine lv_iload_n hx hb dX7_cell_1 rfl (lv_at hl 1 rfl) ?_
  have hPc := hP.sub (ws' := [(h0, .inr (9, [.ref qm, .ref qt, .ref qw, .ref qc, .ref qb, .ref qg, .int 0, .int 0, .int 0, .int 0, .int 0]))]) [0] rfl
  have hDc := hD.sub (ws' := [(h0, .inr (9, [.ref qm, .ref qt, .ref qw, .ref qc, .ref qb, .ref qg, .int 0, .int 0, .int 0, .int 0, .int 0]))]) [0] (by decide) rfl
  have hKc := hK.sub (tys' := []) [] rfl
  have hFc := va_free (wc := [(h0, .inr (9, [.ref qm, .ref qt, .ref qw, .ref qc, .ref qb, .ref qg, .int 0, .int 0, .int 0, .int 0, .int 0]))]) hD hS hA [0] rfl
  have hZc := ((hZ.kept hS.2.1).narrow hFc)
  refine zz_callr (vx_runV (As := [.int p0]) (rest := []) ⟨hx, hb, hml, hown, hts⟩ (c_X7_find l hnt dC dI a0 h0 qm qt qw qc qb qg p0 s.heap.size ) (cwV 1 hts (goodIn_of _ (by decide +kernel)) rfl rfl rfl (by decide +kernel) ⟨Nat.le_of_ble_eq_true rfl, Nat.le_of_ble_eq_true rfl⟩) ⟨fun a U g mk q => by obtain ⟨q0, q1, qP, qK, qD, qZ⟩ := q; exact ⟨q0, q1, qP, va_K.moved (u := U) (U := U.calling g mk a) (Vm.Alike.refl U.vm) qK, qD, qZ.call⟩, va_recv hKc hPc (ci := 9) (q0 := 0) rfl rfl, fun U hU hW => ⟨rfl, by rw [hU], by rw [hU]; exact hPc, va_K.moved hW.alike hKc, hDc.weaken (fun _ _ _ _ => trivial), by rw [hU]; exact hZc.warm hW⟩⟩ rfl rfl hl.1 rfl (lv_room (Nat.le_of_ble_eq_true rfl)) dX7_cell_2 ⟨Nat.le_of_ble_eq_true rfl, Nat.le_of_ble_eq_true rfl⟩) hS (fun q _ h => hFc q h) hFc (fun q _ h => hFc q h) (fun E ce q9 u t H1 locs ht hvm hw hB hz1 hk1 hS hce hcv hcl => ?_) (fun u r_1 t H1 locs ht hvm hw hB hz1 hk1 hS => ?_)
  · have hE := hB
    exact vx_out (fun x h => (hout x h).elim) hlocks hce hcv hcl (fun t2 ht2 hW2 => ⟨(), trivial, hE, hS.F ht2⟩) hS.2.2 (Nat.le_of_ble_eq_true rfl) (Nat.le_of_ble_eq_true rfl)
  exact hB.elim

def zs_c_X7_ofMachine : List Cond := .code yX7_ofMachine cX7_ofMachine 4 (some .int) :: (([.code yX7_find cX7_find 3 (some (.object "Haltingale$Machine")), .classLink RX7 301 "java/lang/IndexOutOfBoundsException", .initialized "java/lang/IndexOutOfBoundsException", .fieldLink RX7 148 "Haltingale" "machineCount" "I", .methodLink RX7 67 yX7_find, .instanceMethod yX7_find, .initialized RX7, .selects RX7 yX7_find yX7_find] : List Cond) ++ (vx_atS RX7 305 "java/lang/IndexOutOfBoundsException" ["java/lang/RuntimeException", "java/lang/Exception"]).filter goodWord ++ wsX70)
set_option maxHeartbeats 4000000 in
set_option maxRecDepth 100000 in
/-- ofMachine of no machine -/
theorem c_X7_ofMachine (l : Launch) (hnt : l.stackTraces = false) (dC : Nat → ClassId) (dI : Nat → Nat → Nat) (a0 : Nat) (h0 : Nat) (qm : Nat) (qt : Nat) (qw : Nat) (qc : Nat) (qb : Nat) (qg : Nat) (p0 : Int32) (p1 : Int32) (sz : Nat)  : vx_Met l yX7_ofMachine zs_c_X7_ofMachine ({ frames := 7, cells := 1, slots := 6, locals := 104 }) (va_Pc [.ref h0, .int p0, .int p1] (fun U => U.heap.size = sz ∧ va_P (dC, dI) vwCl [(h0, .inr (9, [.ref qm, .ref qt, .ref qw, .ref qc, .ref qb, .ref qg, .int 0, .int 0, .int 0, .int 0, .int 0]))] U.heap ∧ va_K (dC, dI) vwCl [] U ∧ va_D (fun _ => True) [(h0, .inr (9, [.ref qm, .ref qt, .ref qw, .ref qc, .ref qb, .ref qg, .int 0, .int 0, .int 0, .int 0, .int 0]))] ∧ zB a0 (va_A [(h0, .inr (9, [.ref qm, .ref qt, .ref qw, .ref qc, .ref qb, .ref qg, .int 0, .int 0, .int 0, .int 0, .int 0]))] sz) U U.heap)) (va_Qi (fun (r : Int32) (_ : Unit) => True) (fun _ t => False) (va_A [(h0, .inr (9, [.ref qm, .ref qt, .ref qw, .ref qc, .ref qb, .ref qg, .int 0, .int 0, .int 0, .int 0, .int 0]))] sz)) (vx_X (fun _ : Unit => True) (fun E _ _ => E = "java/lang/IndexOutOfBoundsException") (va_A [(h0, .inr (9, [.ref qm, .ref qt, .ref qw, .ref qc, .ref qb, .ref qg, .int 0, .int 0, .int 0, .int 0, .int 0]))] sz)) 1 6 (va_A [(h0, .inr (9, [.ref qm, .ref qt, .ref qw, .ref qc, .ref qb, .ref qg, .int 0, .int 0, .int 0, .int 0, .int 0]))] sz) := by
  refine vx_ofW (cc := cX7_ofMachine) (maxL := 4) (ret := (some .int)) (by decide) rfl ?_
  intro p e s m args below meth c s₁ B hml hout hv
  obtain ⟨rfl, hsz, hP, hK, hD0, hZ⟩ := hv
  have hx := B.exec
  have hb := B.bytes
  have hr := B.returns
  have hts := atoms_spec (ws := zs_c_X7_ofMachine) B.pre
  have hown : s.vm.findClass RX7 = some m.cls := findClass_of_methodNamed B.named
  have hlocks := B.notSynchronized
  subst hsz
  have hD := hD0.self (sz := s.heap.size)
  generalize hAe : va_A [(h0, .inr (9, [.ref qm, .ref qt, .ref qw, .ref qc, .ref qb, .ref qg, .int 0, .int 0, .int 0, .int 0, .int 0]))] s.heap.size = A at hD hZ ⊢
  have hA : ∀ q : Nat, s.heap.size ≤ q → A q := fun q h => by rw [← hAe]; exact Or.inr h
  have hS : va_S A s.heap s.heap [] := va_S.rf
  have hl := lv_entry ([.ref h0, .int p0, .int p1]) (n := 4) (Nat.le_of_ble_eq_true rfl)
  rw [lg_entry_eq]
  generalize (lg_sl ([.ref h0, .int p0, .int p1]) ++ List.replicate (4 - (lg_sl ([.ref h0, .int p0, .int p1])).length) Slot.unset).toArray = ls at hl ⊢
  have hl : lv_has ls 4 [(0, .ref h0), (1, .int p0), (2, .int p1)] := hl
  refine lv_aload_n hx hb dX7_ofMachine_0 rfl (lv_at hl 0 rfl) ?_
  refine lv_iload_n hx hb dX7_ofMachine_1 rfl (lv_at hl 1 rfl) ?_
  have hPc := hP.sub (ws' := [(h0, .inr (9, [.ref qm, .ref qt, .ref qw, .ref qc, .ref qb, .ref qg, .int 0, .int 0, .int 0, .int 0, .int 0]))]) [0] rfl
  have hDc := hD.sub (ws' := [(h0, .inr (9, [.ref qm, .ref qt, .ref qw, .ref qc, .ref qb, .ref qg, .int 0, .int 0, .int 0, .int 0, .int 0]))]) [0] (by decide) rfl
  have hKc := hK.sub (tys' := []) [] rfl
  have hFc := va_free (wc := [(h0, .inr (9, [.ref qm, .ref qt, .ref qw, .ref qc, .ref qb, .ref qg, .int 0, .int 0, .int 0, .int 0, .int 0]))]) hD hS hA [0] rfl
  have hZc := ((hZ.kept hS.2.1).narrow hFc)
  refine zz_callr (vx_runV (As := [.int p0]) (rest := []) ⟨hx, hb, hml, hown, hts⟩ (c_X7_find l hnt dC dI a0 h0 qm qt qw qc qb qg p0 s.heap.size ) (cwV 1 hts (goodIn_of _ (by decide +kernel)) rfl rfl rfl (by decide +kernel) ⟨Nat.le_of_ble_eq_true rfl, Nat.le_of_ble_eq_true rfl⟩) ⟨fun a U g mk q => by obtain ⟨q0, q1, qP, qK, qD, qZ⟩ := q; exact ⟨q0, q1, qP, va_K.moved (u := U) (U := U.calling g mk a) (Vm.Alike.refl U.vm) qK, qD, qZ.call⟩, va_recv hKc hPc (ci := 9) (q0 := 0) rfl rfl, fun U hU hW => ⟨rfl, by rw [hU], by rw [hU]; exact hPc, va_K.moved hW.alike hKc, hDc.weaken (fun _ _ _ _ => trivial), by rw [hU]; exact hZc.warm hW⟩⟩ rfl rfl hl.1 rfl (lv_room (Nat.le_of_ble_eq_true rfl)) dX7_ofMachine_2 ⟨Nat.le_of_ble_eq_true rfl, Nat.le_of_ble_eq_true rfl⟩) hS (fun q _ h => hFc q h) hFc (fun q _ h => hFc q h) (fun E ce q9 u t H1 locs ht hvm hw hB hz1 hk1 hS hce hcv hcl => ?_) (fun u r_1 t H1 locs ht hvm hw hB hz1 hk1 hS => ?_)
  · have hE := hB
    exact vx_out (fun x h => (hout x h).elim) hlocks hce hcv hcl (fun t2 ht2 hW2 => ⟨(), trivial, hE, hS.F ht2⟩) hS.2.2 (Nat.le_of_ble_eq_true rfl) (Nat.le_of_ble_eq_true rfl)
  exact hB.elim

def zs_c_X7_at : List Cond := .code yX7_at cX7_at 5 (some .int) :: (([.code yX7_find cX7_find 3 (some (.object "Haltingale$Machine")), .classLink RX7 301 "java/lang/IndexOutOfBoundsException", .initialized "java/lang/IndexOutOfBoundsException", .fieldLink RX7 148 "Haltingale" "machineCount" "I", .methodLink RX7 67 yX7_find, .instanceMethod yX7_find, .initialized RX7, .selects RX7 yX7_find yX7_find] : List Cond) ++ (vx_atS RX7 305 "java/lang/IndexOutOfBoundsException" ["java/lang/RuntimeException", "java/lang/Exception"]).filter goodWord ++ wsX70)
set_option maxHeartbeats 4000000 in
set_option maxRecDepth 100000 in
/-- at of no machine -/
theorem c_X7_at (l : Launch) (hnt : l.stackTraces = false) (dC : Nat → ClassId) (dI : Nat → Nat → Nat) (a0 : Nat) (h0 : Nat) (qm : Nat) (qt : Nat) (qw : Nat) (qc : Nat) (qb : Nat) (qg : Nat) (p0 : Int32) (p1 : Int32) (p2 : Int32) (sz : Nat)  : vx_Met l yX7_at zs_c_X7_at ({ frames := 7, cells := 1, slots := 6, locals := 104 }) (va_Pc [.ref h0, .int p0, .int p1, .int p2] (fun U => U.heap.size = sz ∧ va_P (dC, dI) vwCl [(h0, .inr (9, [.ref qm, .ref qt, .ref qw, .ref qc, .ref qb, .ref qg, .int 0, .int 0, .int 0, .int 0, .int 0]))] U.heap ∧ va_K (dC, dI) vwCl [] U ∧ va_D (fun _ => True) [(h0, .inr (9, [.ref qm, .ref qt, .ref qw, .ref qc, .ref qb, .ref qg, .int 0, .int 0, .int 0, .int 0, .int 0]))] ∧ zB a0 (va_A [(h0, .inr (9, [.ref qm, .ref qt, .ref qw, .ref qc, .ref qb, .ref qg, .int 0, .int 0, .int 0, .int 0, .int 0]))] sz) U U.heap)) (va_Qi (fun (r : Int32) (_ : Unit) => True) (fun _ t => False) (va_A [(h0, .inr (9, [.ref qm, .ref qt, .ref qw, .ref qc, .ref qb, .ref qg, .int 0, .int 0, .int 0, .int 0, .int 0]))] sz)) (vx_X (fun _ : Unit => True) (fun E _ _ => E = "java/lang/IndexOutOfBoundsException") (va_A [(h0, .inr (9, [.ref qm, .ref qt, .ref qw, .ref qc, .ref qb, .ref qg, .int 0, .int 0, .int 0, .int 0, .int 0]))] sz)) 1 6 (va_A [(h0, .inr (9, [.ref qm, .ref qt, .ref qw, .ref qc, .ref qb, .ref qg, .int 0, .int 0, .int 0, .int 0, .int 0]))] sz) := by
  refine vx_ofW (cc := cX7_at) (maxL := 5) (ret := (some .int)) (by decide) rfl ?_
  intro p e s m args below meth c s₁ B hml hout hv
  obtain ⟨rfl, hsz, hP, hK, hD0, hZ⟩ := hv
  have hx := B.exec
  have hb := B.bytes
  have hr := B.returns
  have hts := atoms_spec (ws := zs_c_X7_at) B.pre
  have hown : s.vm.findClass RX7 = some m.cls := findClass_of_methodNamed B.named
  have hlocks := B.notSynchronized
  subst hsz
  have hD := hD0.self (sz := s.heap.size)
  generalize hAe : va_A [(h0, .inr (9, [.ref qm, .ref qt, .ref qw, .ref qc, .ref qb, .ref qg, .int 0, .int 0, .int 0, .int 0, .int 0]))] s.heap.size = A at hD hZ ⊢
  have hA : ∀ q : Nat, s.heap.size ≤ q → A q := fun q h => by rw [← hAe]; exact Or.inr h
  have hS : va_S A s.heap s.heap [] := va_S.rf
  have hl := lv_entry ([.ref h0, .int p0, .int p1, .int p2]) (n := 5) (Nat.le_of_ble_eq_true rfl)
  rw [lg_entry_eq]
  generalize (lg_sl ([.ref h0, .int p0, .int p1, .int p2]) ++ List.replicate (5 - (lg_sl ([.ref h0, .int p0, .int p1, .int p2])).length) Slot.unset).toArray = ls at hl ⊢
  have hl : lv_has ls 5 [(0, .ref h0), (1, .int p0), (2, .int p1), (3, .int p2)] := hl
  refine lv_aload_n hx hb dX7_at_0 rfl (lv_at hl 0 rfl) ?_
  refine lv_iload_n hx hb dX7_at_1 rfl (lv_at hl 1 rfl) ?_
  have hPc := hP.sub (ws' := [(h0, .inr (9, [.ref qm, .ref qt, .ref qw, .ref qc, .ref qb, .ref qg, .int 0, .int 0, .int 0, .int 0, .int 0]))]) [0] rfl
  have hDc := hD.sub (ws' := [(h0, .inr (9, [.ref qm, .ref qt, .ref qw, .ref qc, .ref qb, .ref qg, .int 0, .int 0, .int 0, .int 0, .int 0]))]) [0] (by decide) rfl
  have hKc := hK.sub (tys' := []) [] rfl
  have hFc := va_free (wc := [(h0, .inr (9, [.ref qm, .ref qt, .ref qw, .ref qc, .ref qb, .ref qg, .int 0, .int 0, .int 0, .int 0, .int 0]))]) hD hS hA [0] rfl
  have hZc := ((hZ.kept hS.2.1).narrow hFc)
  refine zz_callr (vx_runV (As := [.int p0]) (rest := []) ⟨hx, hb, hml, hown, hts⟩ (c_X7_find l hnt dC dI a0 h0 qm qt qw qc qb qg p0 s.heap.size ) (cwV 1 hts (goodIn_of _ (by decide +kernel)) rfl rfl rfl (by decide +kernel) ⟨Nat.le_of_ble_eq_true rfl, Nat.le_of_ble_eq_true rfl⟩) ⟨fun a U g mk q => by obtain ⟨q0, q1, qP, qK, qD, qZ⟩ := q; exact ⟨q0, q1, qP, va_K.moved (u := U) (U := U.calling g mk a) (Vm.Alike.refl U.vm) qK, qD, qZ.call⟩, va_recv hKc hPc (ci := 9) (q0 := 0) rfl rfl, fun U hU hW => ⟨rfl, by rw [hU], by rw [hU]; exact hPc, va_K.moved hW.alike hKc, hDc.weaken (fun _ _ _ _ => trivial), by rw [hU]; exact hZc.warm hW⟩⟩ rfl rfl hl.1 rfl (lv_room (Nat.le_of_ble_eq_true rfl)) dX7_at_2 ⟨Nat.le_of_ble_eq_true rfl, Nat.le_of_ble_eq_true rfl⟩) hS (fun q _ h => hFc q h) hFc (fun q _ h => hFc q h) (fun E ce q9 u t H1 locs ht hvm hw hB hz1 hk1 hS hce hcv hcl => ?_) (fun u r_1 t H1 locs ht hvm hw hB hz1 hk1 hS => ?_)
  · have hE := hB
    exact vx_out (fun x h => (hout x h).elim) hlocks hce hcv hcl (fun t2 ht2 hW2 => ⟨(), trivial, hE, hS.F ht2⟩) hS.2.2 (Nat.le_of_ble_eq_true rfl) (Nat.le_of_ble_eq_true rfl)
  exact hB.elim

def zs_c_X7_symbol : List Cond := .code yX7_symbol cX7_symbol 5 (some .int) :: (([.code yX7_find cX7_find 3 (some (.object "Haltingale$Machine")), .classLink RX7 301 "java/lang/IndexOutOfBoundsException", .initialized "java/lang/IndexOutOfBoundsException", .fieldLink RX7 148 "Haltingale" "machineCount" "I", .methodLink RX7 67 yX7_find, .instanceMethod yX7_find, .initialized RX7, .selects RX7 yX7_find yX7_find] : List Cond) ++ (vx_atS RX7 305 "java/lang/IndexOutOfBoundsException" ["java/lang/RuntimeException", "java/lang/Exception"]).filter goodWord ++ wsX70)
set_option maxHeartbeats 4000000 in
set_option maxRecDepth 100000 in
/-- symbol of no machine -/
theorem c_X7_symbol (l : Launch) (hnt : l.stackTraces = false) (dC : Nat → ClassId) (dI : Nat → Nat → Nat) (a0 : Nat) (h0 : Nat) (qm : Nat) (qt : Nat) (qw : Nat) (qc : Nat) (qb : Nat) (qg : Nat) (p0 : Int32) (p1 : Int32) (p2 : Int32) (sz : Nat)  : vx_Met l yX7_symbol zs_c_X7_symbol ({ frames := 7, cells := 1, slots := 6, locals := 104 }) (va_Pc [.ref h0, .int p0, .int p1, .int p2] (fun U => U.heap.size = sz ∧ va_P (dC, dI) vwCl [(h0, .inr (9, [.ref qm, .ref qt, .ref qw, .ref qc, .ref qb, .ref qg, .int 0, .int 0, .int 0, .int 0, .int 0]))] U.heap ∧ va_K (dC, dI) vwCl [] U ∧ va_D (fun _ => True) [(h0, .inr (9, [.ref qm, .ref qt, .ref qw, .ref qc, .ref qb, .ref qg, .int 0, .int 0, .int 0, .int 0, .int 0]))] ∧ zB a0 (va_A [(h0, .inr (9, [.ref qm, .ref qt, .ref qw, .ref qc, .ref qb, .ref qg, .int 0, .int 0, .int 0, .int 0, .int 0]))] sz) U U.heap)) (va_Qi (fun (r : Int32) (_ : Unit) => True) (fun _ t => False) (va_A [(h0, .inr (9, [.ref qm, .ref qt, .ref qw, .ref qc, .ref qb, .ref qg, .int 0, .int 0, .int 0, .int 0, .int 0]))] sz)) (vx_X (fun _ : Unit => True) (fun E _ _ => E = "java/lang/IndexOutOfBoundsException") (va_A [(h0, .inr (9, [.ref qm, .ref qt, .ref qw, .ref qc, .ref qb, .ref qg, .int 0, .int 0, .int 0, .int 0, .int 0]))] sz)) 1 6 (va_A [(h0, .inr (9, [.ref qm, .ref qt, .ref qw, .ref qc, .ref qb, .ref qg, .int 0, .int 0, .int 0, .int 0, .int 0]))] sz) := by
  refine vx_ofW (cc := cX7_symbol) (maxL := 5) (ret := (some .int)) (by decide) rfl ?_
  intro p e s m args below meth c s₁ B hml hout hv
  obtain ⟨rfl, hsz, hP, hK, hD0, hZ⟩ := hv
  have hx := B.exec
  have hb := B.bytes
  have hr := B.returns
  have hts := atoms_spec (ws := zs_c_X7_symbol) B.pre
  have hown : s.vm.findClass RX7 = some m.cls := findClass_of_methodNamed B.named
  have hlocks := B.notSynchronized
  subst hsz
  have hD := hD0.self (sz := s.heap.size)
  generalize hAe : va_A [(h0, .inr (9, [.ref qm, .ref qt, .ref qw, .ref qc, .ref qb, .ref qg, .int 0, .int 0, .int 0, .int 0, .int 0]))] s.heap.size = A at hD hZ ⊢
  have hA : ∀ q : Nat, s.heap.size ≤ q → A q := fun q h => by rw [← hAe]; exact Or.inr h
  have hS : va_S A s.heap s.heap [] := va_S.rf
  have hl := lv_entry ([.ref h0, .int p0, .int p1, .int p2]) (n := 5) (Nat.le_of_ble_eq_true rfl)
  rw [lg_entry_eq]
  generalize (lg_sl ([.ref h0, .int p0, .int p1, .int p2]) ++ List.replicate (5 - (lg_sl ([.ref h0, .int p0, .int p1, .int p2])).length) Slot.unset).toArray = ls at hl ⊢
  have hl : lv_has ls 5 [(0, .ref h0), (1, .int p0), (2, .int p1), (3, .int p2)] := hl
  refine lv_aload_n hx hb dX7_symbol_0 rfl (lv_at hl 0 rfl) ?_
  refine lv_iload_n hx hb dX7_symbol_1 rfl (lv_at hl 1 rfl) ?_
  have hPc := hP.sub (ws' := [(h0, .inr (9, [.ref qm, .ref qt, .ref qw, .ref qc, .ref qb, .ref qg, .int 0, .int 0, .int 0, .int 0, .int 0]))]) [0] rfl
  have hDc := hD.sub (ws' := [(h0, .inr (9, [.ref qm, .ref qt, .ref qw, .ref qc, .ref qb, .ref qg, .int 0, .int 0, .int 0, .int 0, .int 0]))]) [0] (by decide) rfl
  have hKc := hK.sub (tys' := []) [] rfl
  have hFc := va_free (wc := [(h0, .inr (9, [.ref qm, .ref qt, .ref qw, .ref qc, .ref qb, .ref qg, .int 0, .int 0, .int 0, .int 0, .int 0]))]) hD hS hA [0] rfl
  have hZc := ((hZ.kept hS.2.1).narrow hFc)
  refine zz_callr (vx_runV (As := [.int p0]) (rest := []) ⟨hx, hb, hml, hown, hts⟩ (c_X7_find l hnt dC dI a0 h0 qm qt qw qc qb qg p0 s.heap.size ) (cwV 1 hts (goodIn_of _ (by decide +kernel)) rfl rfl rfl (by decide +kernel) ⟨Nat.le_of_ble_eq_true rfl, Nat.le_of_ble_eq_true rfl⟩) ⟨fun a U g mk q => by obtain ⟨q0, q1, qP, qK, qD, qZ⟩ := q; exact ⟨q0, q1, qP, va_K.moved (u := U) (U := U.calling g mk a) (Vm.Alike.refl U.vm) qK, qD, qZ.call⟩, va_recv hKc hPc (ci := 9) (q0 := 0) rfl rfl, fun U hU hW => ⟨rfl, by rw [hU], by rw [hU]; exact hPc, va_K.moved hW.alike hKc, hDc.weaken (fun _ _ _ _ => trivial), by rw [hU]; exact hZc.warm hW⟩⟩ rfl rfl hl.1 rfl (lv_room (Nat.le_of_ble_eq_true rfl)) dX7_symbol_2 ⟨Nat.le_of_ble_eq_true rfl, Nat.le_of_ble_eq_true rfl⟩) hS (fun q _ h => hFc q h) hFc (fun q _ h => hFc q h) (fun E ce q9 u t H1 locs ht hvm hw hB hz1 hk1 hS hce hcv hcl => ?_) (fun u r_1 t H1 locs ht hvm hw hB hz1 hk1 hS => ?_)
  · have hE := hB
    exact vx_out (fun x h => (hout x h).elim) hlocks hce hcv hcl (fun t2 ht2 hW2 => ⟨(), trivial, hE, hS.F ht2⟩) hS.2.2 (Nat.le_of_ble_eq_true rfl) (Nat.le_of_ble_eq_true rfl)
  exact hB.elim

def zs_c_X7_lean : List Cond := .code yX7_lean cX7_lean 4 (some .double) :: (([.code yX7_find cX7_find 3 (some (.object "Haltingale$Machine")), .classLink RX7 301 "java/lang/IndexOutOfBoundsException", .initialized "java/lang/IndexOutOfBoundsException", .fieldLink RX7 148 "Haltingale" "machineCount" "I", .methodLink RX7 67 yX7_find, .instanceMethod yX7_find, .initialized RX7, .selects RX7 yX7_find yX7_find] : List Cond) ++ (vx_atS RX7 305 "java/lang/IndexOutOfBoundsException" ["java/lang/RuntimeException", "java/lang/Exception"]).filter goodWord ++ wsX70)
set_option maxHeartbeats 4000000 in
set_option maxRecDepth 100000 in
/-- lean of no machine -/
theorem c_X7_lean (l : Launch) (hnt : l.stackTraces = false) (dC : Nat → ClassId) (dI : Nat → Nat → Nat) (a0 : Nat) (h0 : Nat) (qm : Nat) (qt : Nat) (qw : Nat) (qc : Nat) (qb : Nat) (qg : Nat) (p0 : Int32) (p1 : Int32) (sz : Nat)  : vx_Met l yX7_lean zs_c_X7_lean ({ frames := 7, cells := 1, slots := 6, locals := 104 }) (va_Pc [.ref h0, .int p0, .int p1] (fun U => U.heap.size = sz ∧ va_P (dC, dI) vwCl [(h0, .inr (9, [.ref qm, .ref qt, .ref qw, .ref qc, .ref qb, .ref qg, .int 0, .int 0, .int 0, .int 0, .int 0]))] U.heap ∧ va_K (dC, dI) vwCl [] U ∧ va_D (fun _ => True) [(h0, .inr (9, [.ref qm, .ref qt, .ref qw, .ref qc, .ref qb, .ref qg, .int 0, .int 0, .int 0, .int 0, .int 0]))] ∧ zB a0 (va_A [(h0, .inr (9, [.ref qm, .ref qt, .ref qw, .ref qc, .ref qb, .ref qg, .int 0, .int 0, .int 0, .int 0, .int 0]))] sz) U U.heap)) (va_Qd (fun (r : UInt64) (_ : Unit) => True) (fun _ t => False) (va_A [(h0, .inr (9, [.ref qm, .ref qt, .ref qw, .ref qc, .ref qb, .ref qg, .int 0, .int 0, .int 0, .int 0, .int 0]))] sz)) (vx_X (fun _ : Unit => True) (fun E _ _ => E = "java/lang/IndexOutOfBoundsException") (va_A [(h0, .inr (9, [.ref qm, .ref qt, .ref qw, .ref qc, .ref qb, .ref qg, .int 0, .int 0, .int 0, .int 0, .int 0]))] sz)) 1 6 (va_A [(h0, .inr (9, [.ref qm, .ref qt, .ref qw, .ref qc, .ref qb, .ref qg, .int 0, .int 0, .int 0, .int 0, .int 0]))] sz) := by
  refine vx_ofW (cc := cX7_lean) (maxL := 4) (ret := (some .double)) (by decide) rfl ?_
  intro p e s m args below meth c s₁ B hml hout hv
  obtain ⟨rfl, hsz, hP, hK, hD0, hZ⟩ := hv
  have hx := B.exec
  have hb := B.bytes
  have hr := B.returns
  have hts := atoms_spec (ws := zs_c_X7_lean) B.pre
  have hown : s.vm.findClass RX7 = some m.cls := findClass_of_methodNamed B.named
  have hlocks := B.notSynchronized
  subst hsz
  have hD := hD0.self (sz := s.heap.size)
  generalize hAe : va_A [(h0, .inr (9, [.ref qm, .ref qt, .ref qw, .ref qc, .ref qb, .ref qg, .int 0, .int 0, .int 0, .int 0, .int 0]))] s.heap.size = A at hD hZ ⊢
  have hA : ∀ q : Nat, s.heap.size ≤ q → A q := fun q h => by rw [← hAe]; exact Or.inr h
  have hS : va_S A s.heap s.heap [] := va_S.rf
  have hl := lv_entry ([.ref h0, .int p0, .int p1]) (n := 4) (Nat.le_of_ble_eq_true rfl)
  rw [lg_entry_eq]
  generalize (lg_sl ([.ref h0, .int p0, .int p1]) ++ List.replicate (4 - (lg_sl ([.ref h0, .int p0, .int p1])).length) Slot.unset).toArray = ls at hl ⊢
  have hl : lv_has ls 4 [(0, .ref h0), (1, .int p0), (2, .int p1)] := hl
  refine lv_aload_n hx hb dX7_lean_0 rfl (lv_at hl 0 rfl) ?_
  refine lv_iload_n hx hb dX7_lean_1 rfl (lv_at hl 1 rfl) ?_
  have hPc := hP.sub (ws' := [(h0, .inr (9, [.ref qm, .ref qt, .ref qw, .ref qc, .ref qb, .ref qg, .int 0, .int 0, .int 0, .int 0, .int 0]))]) [0] rfl
  have hDc := hD.sub (ws' := [(h0, .inr (9, [.ref qm, .ref qt, .ref qw, .ref qc, .ref qb, .ref qg, .int 0, .int 0, .int 0, .int 0, .int 0]))]) [0] (by decide) rfl
  have hKc := hK.sub (tys' := []) [] rfl
  have hFc := va_free (wc := [(h0, .inr (9, [.ref qm, .ref qt, .ref qw, .ref qc, .ref qb, .ref qg, .int 0, .int 0, .int 0, .int 0, .int 0]))]) hD hS hA [0] rfl
  have hZc := ((hZ.kept hS.2.1).narrow hFc)
  refine zz_callr (vx_runV (As := [.int p0]) (rest := []) ⟨hx, hb, hml, hown, hts⟩ (c_X7_find l hnt dC dI a0 h0 qm qt qw qc qb qg p0 s.heap.size ) (cwV 1 hts (goodIn_of _ (by decide +kernel)) rfl rfl rfl (by decide +kernel) ⟨Nat.le_of_ble_eq_true rfl, Nat.le_of_ble_eq_true rfl⟩) ⟨fun a U g mk q => by obtain ⟨q0, q1, qP, qK, qD, qZ⟩ := q; exact ⟨q0, q1, qP, va_K.moved (u := U) (U := U.calling g mk a) (Vm.Alike.refl U.vm) qK, qD, qZ.call⟩, va_recv hKc hPc (ci := 9) (q0 := 0) rfl rfl, fun U hU hW => ⟨rfl, by rw [hU], by rw [hU]; exact hPc, va_K.moved hW.alike hKc, hDc.weaken (fun _ _ _ _ => trivial), by rw [hU]; exact hZc.warm hW⟩⟩ rfl rfl hl.1 rfl (lv_room (Nat.le_of_ble_eq_true rfl)) dX7_lean_2 ⟨Nat.le_of_ble_eq_true rfl, Nat.le_of_ble_eq_true rfl⟩) hS (fun q _ h => hFc q h) hFc (fun q _ h => hFc q h) (fun E ce q9 u t H1 locs ht hvm hw hB hz1 hk1 hS hce hcv hcl => ?_) (fun u r_1 t H1 locs ht hvm hw hB hz1 hk1 hS => ?_)
  · have hE := hB
    exact vx_out (fun x h => (hout x h).elim) hlocks hce hcv hcl (fun t2 ht2 hW2 => ⟨(), trivial, hE, hS.F ht2⟩) hS.2.2 (Nat.le_of_ble_eq_true rfl) (Nat.le_of_ble_eq_true rfl)
  exact hB.elim

def zs_c_X7_meets : List Cond := .code yX7_meets cX7_meets 8 (some .int) :: (([.code yX7_find cX7_find 3 (some (.object "Haltingale$Machine")), .classLink RX7 301 "java/lang/IndexOutOfBoundsException", .initialized "java/lang/IndexOutOfBoundsException", .fieldLink RX7 148 "Haltingale" "machineCount" "I", .methodLink RX7 67 yX7_find, .instanceMethod yX7_find, .initialized RX7, .selects RX7 yX7_find yX7_find] : List Cond) ++ (vx_atS RX7 305 "java/lang/IndexOutOfBoundsException" ["java/lang/RuntimeException", "java/lang/Exception"]).filter goodWord ++ wsX70)
set_option maxHeartbeats 4000000 in
set_option maxRecDepth 100000 in
/-- meets of no machine -/
theorem c_X7_meets (l : Launch) (hnt : l.stackTraces = false) (dC : Nat → ClassId) (dI : Nat → Nat → Nat) (a0 : Nat) (h0 : Nat) (qm : Nat) (qt : Nat) (qw : Nat) (qc : Nat) (qb : Nat) (qg : Nat) (p0 : Int32) (p1 : Int32) (p2 : Int32) (p3 : Int32) (sz : Nat)  : vx_Met l yX7_meets zs_c_X7_meets ({ frames := 7, cells := 1, slots := 6, locals := 104 }) (va_Pc [.ref h0, .int p0, .int p1, .int p2, .int p3] (fun U => U.heap.size = sz ∧ va_P (dC, dI) vwCl [(h0, .inr (9, [.ref qm, .ref qt, .ref qw, .ref qc, .ref qb, .ref qg, .int 0, .int 0, .int 0, .int 0, .int 0]))] U.heap ∧ va_K (dC, dI) vwCl [] U ∧ va_D (fun _ => True) [(h0, .inr (9, [.ref qm, .ref qt, .ref qw, .ref qc, .ref qb, .ref qg, .int 0, .int 0, .int 0, .int 0, .int 0]))] ∧ zB a0 (va_A [(h0, .inr (9, [.ref qm, .ref qt, .ref qw, .ref qc, .ref qb, .ref qg, .int 0, .int 0, .int 0, .int 0, .int 0]))] sz) U U.heap)) (va_Qi (fun (r : Int32) (_ : Unit) => True) (fun _ t => False) (va_A [(h0, .inr (9, [.ref qm, .ref qt, .ref qw, .ref qc, .ref qb, .ref qg, .int 0, .int 0, .int 0, .int 0, .int 0]))] sz)) (vx_X (fun _ : Unit => True) (fun E _ _ => E = "java/lang/IndexOutOfBoundsException") (va_A [(h0, .inr (9, [.ref qm, .ref qt, .ref qw, .ref qc, .ref qb, .ref qg, .int 0, .int 0, .int 0, .int 0, .int 0]))] sz)) 1 6 (va_A [(h0, .inr (9, [.ref qm, .ref qt, .ref qw, .ref qc, .ref qb, .ref qg, .int 0, .int 0, .int 0, .int 0, .int 0]))] sz) := by
  refine vx_ofW (cc := cX7_meets) (maxL := 8) (ret := (some .int)) (by decide) rfl ?_
  intro p e s m args below meth c s₁ B hml hout hv
  obtain ⟨rfl, hsz, hP, hK, hD0, hZ⟩ := hv
  have hx := B.exec
  have hb := B.bytes
  have hr := B.returns
  have hts := atoms_spec (ws := zs_c_X7_meets) B.pre
  have hown : s.vm.findClass RX7 = some m.cls := findClass_of_methodNamed B.named
  have hlocks := B.notSynchronized
  subst hsz
  have hD := hD0.self (sz := s.heap.size)
  generalize hAe : va_A [(h0, .inr (9, [.ref qm, .ref qt, .ref qw, .ref qc, .ref qb, .ref qg, .int 0, .int 0, .int 0, .int 0, .int 0]))] s.heap.size = A at hD hZ ⊢
  have hA : ∀ q : Nat, s.heap.size ≤ q → A q := fun q h => by rw [← hAe]; exact Or.inr h
  have hS : va_S A s.heap s.heap [] := va_S.rf
  have hl := lv_entry ([.ref h0, .int p0, .int p1, .int p2, .int p3]) (n := 8) (Nat.le_of_ble_eq_true rfl)
  rw [lg_entry_eq]
  generalize (lg_sl ([.ref h0, .int p0, .int p1, .int p2, .int p3]) ++ List.replicate (8 - (lg_sl ([.ref h0, .int p0, .int p1, .int p2, .int p3])).length) Slot.unset).toArray = ls at hl ⊢
  have hl : lv_has ls 8 [(0, .ref h0), (1, .int p0), (2, .int p1), (3, .int p2), (4, .int p3)] := hl
  refine lv_aload_n hx hb dX7_meets_0 rfl (lv_at hl 0 rfl) ?_
  refine lv_iload_n hx hb dX7_meets_1 rfl (lv_at hl 1 rfl) ?_
  have hPc := hP.sub (ws' := [(h0, .inr (9, [.ref qm, .ref qt, .ref qw, .ref qc, .ref qb, .ref qg, .int 0, .int 0, .int 0, .int 0, .int 0]))]) [0] rfl
  have hDc := hD.sub (ws' := [(h0, .inr (9, [.ref qm, .ref qt, .ref qw, .ref qc, .ref qb, .ref qg, .int 0, .int 0, .int 0, .int 0, .int 0]))]) [0] (by decide) rfl
  have hKc := hK.sub (tys' := []) [] rfl
  have hFc := va_free (wc := [(h0, .inr (9, [.ref qm, .ref qt, .ref qw, .ref qc, .ref qb, .ref qg, .int 0, .int 0, .int 0, .int 0, .int 0]))]) hD hS hA [0] rfl
  have hZc := ((hZ.kept hS.2.1).narrow hFc)
  refine zz_callr (vx_runV (As := [.int p0]) (rest := []) ⟨hx, hb, hml, hown, hts⟩ (c_X7_find l hnt dC dI a0 h0 qm qt qw qc qb qg p0 s.heap.size ) (cwV 1 hts (goodIn_of _ (by decide +kernel)) rfl rfl rfl (by decide +kernel) ⟨Nat.le_of_ble_eq_true rfl, Nat.le_of_ble_eq_true rfl⟩) ⟨fun a U g mk q => by obtain ⟨q0, q1, qP, qK, qD, qZ⟩ := q; exact ⟨q0, q1, qP, va_K.moved (u := U) (U := U.calling g mk a) (Vm.Alike.refl U.vm) qK, qD, qZ.call⟩, va_recv hKc hPc (ci := 9) (q0 := 0) rfl rfl, fun U hU hW => ⟨rfl, by rw [hU], by rw [hU]; exact hPc, va_K.moved hW.alike hKc, hDc.weaken (fun _ _ _ _ => trivial), by rw [hU]; exact hZc.warm hW⟩⟩ rfl rfl hl.1 rfl (lv_room (Nat.le_of_ble_eq_true rfl)) dX7_meets_2 ⟨Nat.le_of_ble_eq_true rfl, Nat.le_of_ble_eq_true rfl⟩) hS (fun q _ h => hFc q h) hFc (fun q _ h => hFc q h) (fun E ce q9 u t H1 locs ht hvm hw hB hz1 hk1 hS hce hcv hcl => ?_) (fun u r_1 t H1 locs ht hvm hw hB hz1 hk1 hS => ?_)
  · have hE := hB
    exact vx_out (fun x h => (hout x h).elim) hlocks hce hcv hcl (fun t2 ht2 hW2 => ⟨(), trivial, hE, hS.F ht2⟩) hS.2.2 (Nat.le_of_ble_eq_true rfl) (Nat.le_of_ble_eq_true rfl)
  exact hB.elim

def zs_c_X7_likeness : List Cond := .code yX7_likeness cX7_likeness 5 (some .int) :: (([.code yX7_find cX7_find 3 (some (.object "Haltingale$Machine")), .classLink RX7 301 "java/lang/IndexOutOfBoundsException", .initialized "java/lang/IndexOutOfBoundsException", .fieldLink RX7 148 "Haltingale" "machineCount" "I", .methodLink RX7 67 yX7_find, .instanceMethod yX7_find, .initialized RX7, .selects RX7 yX7_find yX7_find] : List Cond) ++ (vx_atS RX7 305 "java/lang/IndexOutOfBoundsException" ["java/lang/RuntimeException", "java/lang/Exception"]).filter goodWord ++ wsX70)
set_option maxHeartbeats 4000000 in
set_option maxRecDepth 100000 in
/-- likeness of no machine -/
theorem c_X7_likeness (l : Launch) (hnt : l.stackTraces = false) (dC : Nat → ClassId) (dI : Nat → Nat → Nat) (a0 : Nat) (h0 : Nat) (qm : Nat) (qt : Nat) (qw : Nat) (qc : Nat) (qb : Nat) (qg : Nat) (p0 : Int32) (p1 : Int32) (sz : Nat)  : vx_Met l yX7_likeness zs_c_X7_likeness ({ frames := 7, cells := 1, slots := 6, locals := 104 }) (va_Pc [.ref h0, .int p0, .int p1] (fun U => U.heap.size = sz ∧ va_P (dC, dI) vwCl [(h0, .inr (9, [.ref qm, .ref qt, .ref qw, .ref qc, .ref qb, .ref qg, .int 0, .int 0, .int 0, .int 0, .int 0]))] U.heap ∧ va_K (dC, dI) vwCl [] U ∧ va_D (fun _ => True) [(h0, .inr (9, [.ref qm, .ref qt, .ref qw, .ref qc, .ref qb, .ref qg, .int 0, .int 0, .int 0, .int 0, .int 0]))] ∧ zB a0 (va_A [(h0, .inr (9, [.ref qm, .ref qt, .ref qw, .ref qc, .ref qb, .ref qg, .int 0, .int 0, .int 0, .int 0, .int 0]))] sz) U U.heap)) (va_Qi (fun (r : Int32) (_ : Unit) => True) (fun _ t => False) (va_A [(h0, .inr (9, [.ref qm, .ref qt, .ref qw, .ref qc, .ref qb, .ref qg, .int 0, .int 0, .int 0, .int 0, .int 0]))] sz)) (vx_X (fun _ : Unit => True) (fun E _ _ => E = "java/lang/IndexOutOfBoundsException") (va_A [(h0, .inr (9, [.ref qm, .ref qt, .ref qw, .ref qc, .ref qb, .ref qg, .int 0, .int 0, .int 0, .int 0, .int 0]))] sz)) 1 6 (va_A [(h0, .inr (9, [.ref qm, .ref qt, .ref qw, .ref qc, .ref qb, .ref qg, .int 0, .int 0, .int 0, .int 0, .int 0]))] sz) := by
  refine vx_ofW (cc := cX7_likeness) (maxL := 5) (ret := (some .int)) (by decide) rfl ?_
  intro p e s m args below meth c s₁ B hml hout hv
  obtain ⟨rfl, hsz, hP, hK, hD0, hZ⟩ := hv
  have hx := B.exec
  have hb := B.bytes
  have hr := B.returns
  have hts := atoms_spec (ws := zs_c_X7_likeness) B.pre
  have hown : s.vm.findClass RX7 = some m.cls := findClass_of_methodNamed B.named
  have hlocks := B.notSynchronized
  subst hsz
  have hD := hD0.self (sz := s.heap.size)
  generalize hAe : va_A [(h0, .inr (9, [.ref qm, .ref qt, .ref qw, .ref qc, .ref qb, .ref qg, .int 0, .int 0, .int 0, .int 0, .int 0]))] s.heap.size = A at hD hZ ⊢
  have hA : ∀ q : Nat, s.heap.size ≤ q → A q := fun q h => by rw [← hAe]; exact Or.inr h
  have hS : va_S A s.heap s.heap [] := va_S.rf
  have hl := lv_entry ([.ref h0, .int p0, .int p1]) (n := 5) (Nat.le_of_ble_eq_true rfl)
  rw [lg_entry_eq]
  generalize (lg_sl ([.ref h0, .int p0, .int p1]) ++ List.replicate (5 - (lg_sl ([.ref h0, .int p0, .int p1])).length) Slot.unset).toArray = ls at hl ⊢
  have hl : lv_has ls 5 [(0, .ref h0), (1, .int p0), (2, .int p1)] := hl
  refine lv_aload_n hx hb dX7_likeness_0 rfl (lv_at hl 0 rfl) ?_
  refine lv_iload_n hx hb dX7_likeness_1 rfl (lv_at hl 1 rfl) ?_
  have hPc := hP.sub (ws' := [(h0, .inr (9, [.ref qm, .ref qt, .ref qw, .ref qc, .ref qb, .ref qg, .int 0, .int 0, .int 0, .int 0, .int 0]))]) [0] rfl
  have hDc := hD.sub (ws' := [(h0, .inr (9, [.ref qm, .ref qt, .ref qw, .ref qc, .ref qb, .ref qg, .int 0, .int 0, .int 0, .int 0, .int 0]))]) [0] (by decide) rfl
  have hKc := hK.sub (tys' := []) [] rfl
  have hFc := va_free (wc := [(h0, .inr (9, [.ref qm, .ref qt, .ref qw, .ref qc, .ref qb, .ref qg, .int 0, .int 0, .int 0, .int 0, .int 0]))]) hD hS hA [0] rfl
  have hZc := ((hZ.kept hS.2.1).narrow hFc)
  refine zz_callr (vx_runV (As := [.int p0]) (rest := []) ⟨hx, hb, hml, hown, hts⟩ (c_X7_find l hnt dC dI a0 h0 qm qt qw qc qb qg p0 s.heap.size ) (cwV 1 hts (goodIn_of _ (by decide +kernel)) rfl rfl rfl (by decide +kernel) ⟨Nat.le_of_ble_eq_true rfl, Nat.le_of_ble_eq_true rfl⟩) ⟨fun a U g mk q => by obtain ⟨q0, q1, qP, qK, qD, qZ⟩ := q; exact ⟨q0, q1, qP, va_K.moved (u := U) (U := U.calling g mk a) (Vm.Alike.refl U.vm) qK, qD, qZ.call⟩, va_recv hKc hPc (ci := 9) (q0 := 0) rfl rfl, fun U hU hW => ⟨rfl, by rw [hU], by rw [hU]; exact hPc, va_K.moved hW.alike hKc, hDc.weaken (fun _ _ _ _ => trivial), by rw [hU]; exact hZc.warm hW⟩⟩ rfl rfl hl.1 rfl (lv_room (Nat.le_of_ble_eq_true rfl)) dX7_likeness_2 ⟨Nat.le_of_ble_eq_true rfl, Nat.le_of_ble_eq_true rfl⟩) hS (fun q _ h => hFc q h) hFc (fun q _ h => hFc q h) (fun E ce q9 u t H1 locs ht hvm hw hB hz1 hk1 hS hce hcv hcl => ?_) (fun u r_1 t H1 locs ht hvm hw hB hz1 hk1 hS => ?_)
  · have hE := hB
    exact vx_out (fun x h => (hout x h).elim) hlocks hce hcv hcl (fun t2 ht2 hW2 => ⟨(), trivial, hE, hS.F ht2⟩) hS.2.2 (Nat.le_of_ble_eq_true rfl) (Nat.le_of_ble_eq_true rfl)
  exact hB.elim

def zs_c_X7_cycleIn : List Cond := .code yX7_cycleIn cX7_cycleIn 4 (some .int) :: (([.code yX7_find cX7_find 3 (some (.object "Haltingale$Machine")), .classLink RX7 301 "java/lang/IndexOutOfBoundsException", .initialized "java/lang/IndexOutOfBoundsException", .fieldLink RX7 148 "Haltingale" "machineCount" "I", .methodLink RX7 67 yX7_find, .instanceMethod yX7_find, .initialized RX7, .selects RX7 yX7_find yX7_find] : List Cond) ++ (vx_atS RX7 305 "java/lang/IndexOutOfBoundsException" ["java/lang/RuntimeException", "java/lang/Exception"]).filter goodWord ++ wsX70)
set_option maxHeartbeats 4000000 in
set_option maxRecDepth 100000 in
/-- cycleIn of no machine -/
theorem c_X7_cycleIn (l : Launch) (hnt : l.stackTraces = false) (dC : Nat → ClassId) (dI : Nat → Nat → Nat) (a0 : Nat) (h0 : Nat) (qm : Nat) (qt : Nat) (qw : Nat) (qc : Nat) (qb : Nat) (qg : Nat) (p0 : Int32) (p1 : Int32) (sz : Nat)  : vx_Met l yX7_cycleIn zs_c_X7_cycleIn ({ frames := 7, cells := 1, slots := 6, locals := 104 }) (va_Pc [.ref h0, .int p0, .int p1] (fun U => U.heap.size = sz ∧ va_P (dC, dI) vwCl [(h0, .inr (9, [.ref qm, .ref qt, .ref qw, .ref qc, .ref qb, .ref qg, .int 0, .int 0, .int 0, .int 0, .int 0]))] U.heap ∧ va_K (dC, dI) vwCl [] U ∧ va_D (fun _ => True) [(h0, .inr (9, [.ref qm, .ref qt, .ref qw, .ref qc, .ref qb, .ref qg, .int 0, .int 0, .int 0, .int 0, .int 0]))] ∧ zB a0 (va_A [(h0, .inr (9, [.ref qm, .ref qt, .ref qw, .ref qc, .ref qb, .ref qg, .int 0, .int 0, .int 0, .int 0, .int 0]))] sz) U U.heap)) (va_Qi (fun (r : Int32) (_ : Unit) => True) (fun _ t => False) (va_A [(h0, .inr (9, [.ref qm, .ref qt, .ref qw, .ref qc, .ref qb, .ref qg, .int 0, .int 0, .int 0, .int 0, .int 0]))] sz)) (vx_X (fun _ : Unit => True) (fun E _ _ => E = "java/lang/IndexOutOfBoundsException") (va_A [(h0, .inr (9, [.ref qm, .ref qt, .ref qw, .ref qc, .ref qb, .ref qg, .int 0, .int 0, .int 0, .int 0, .int 0]))] sz)) 1 6 (va_A [(h0, .inr (9, [.ref qm, .ref qt, .ref qw, .ref qc, .ref qb, .ref qg, .int 0, .int 0, .int 0, .int 0, .int 0]))] sz) := by
  refine vx_ofW (cc := cX7_cycleIn) (maxL := 4) (ret := (some .int)) (by decide) rfl ?_
  intro p e s m args below meth c s₁ B hml hout hv
  obtain ⟨rfl, hsz, hP, hK, hD0, hZ⟩ := hv
  have hx := B.exec
  have hb := B.bytes
  have hr := B.returns
  have hts := atoms_spec (ws := zs_c_X7_cycleIn) B.pre
  have hown : s.vm.findClass RX7 = some m.cls := findClass_of_methodNamed B.named
  have hlocks := B.notSynchronized
  subst hsz
  have hD := hD0.self (sz := s.heap.size)
  generalize hAe : va_A [(h0, .inr (9, [.ref qm, .ref qt, .ref qw, .ref qc, .ref qb, .ref qg, .int 0, .int 0, .int 0, .int 0, .int 0]))] s.heap.size = A at hD hZ ⊢
  have hA : ∀ q : Nat, s.heap.size ≤ q → A q := fun q h => by rw [← hAe]; exact Or.inr h
  have hS : va_S A s.heap s.heap [] := va_S.rf
  have hl := lv_entry ([.ref h0, .int p0, .int p1]) (n := 4) (Nat.le_of_ble_eq_true rfl)
  rw [lg_entry_eq]
  generalize (lg_sl ([.ref h0, .int p0, .int p1]) ++ List.replicate (4 - (lg_sl ([.ref h0, .int p0, .int p1])).length) Slot.unset).toArray = ls at hl ⊢
  have hl : lv_has ls 4 [(0, .ref h0), (1, .int p0), (2, .int p1)] := hl
  refine lv_aload_n hx hb dX7_cycleIn_0 rfl (lv_at hl 0 rfl) ?_
  refine lv_iload_n hx hb dX7_cycleIn_1 rfl (lv_at hl 1 rfl) ?_
  have hPc := hP.sub (ws' := [(h0, .inr (9, [.ref qm, .ref qt, .ref qw, .ref qc, .ref qb, .ref qg, .int 0, .int 0, .int 0, .int 0, .int 0]))]) [0] rfl
  have hDc := hD.sub (ws' := [(h0, .inr (9, [.ref qm, .ref qt, .ref qw, .ref qc, .ref qb, .ref qg, .int 0, .int 0, .int 0, .int 0, .int 0]))]) [0] (by decide) rfl
  have hKc := hK.sub (tys' := []) [] rfl
  have hFc := va_free (wc := [(h0, .inr (9, [.ref qm, .ref qt, .ref qw, .ref qc, .ref qb, .ref qg, .int 0, .int 0, .int 0, .int 0, .int 0]))]) hD hS hA [0] rfl
  have hZc := ((hZ.kept hS.2.1).narrow hFc)
  refine zz_callr (vx_runV (As := [.int p0]) (rest := []) ⟨hx, hb, hml, hown, hts⟩ (c_X7_find l hnt dC dI a0 h0 qm qt qw qc qb qg p0 s.heap.size ) (cwV 1 hts (goodIn_of _ (by decide +kernel)) rfl rfl rfl (by decide +kernel) ⟨Nat.le_of_ble_eq_true rfl, Nat.le_of_ble_eq_true rfl⟩) ⟨fun a U g mk q => by obtain ⟨q0, q1, qP, qK, qD, qZ⟩ := q; exact ⟨q0, q1, qP, va_K.moved (u := U) (U := U.calling g mk a) (Vm.Alike.refl U.vm) qK, qD, qZ.call⟩, va_recv hKc hPc (ci := 9) (q0 := 0) rfl rfl, fun U hU hW => ⟨rfl, by rw [hU], by rw [hU]; exact hPc, va_K.moved hW.alike hKc, hDc.weaken (fun _ _ _ _ => trivial), by rw [hU]; exact hZc.warm hW⟩⟩ rfl rfl hl.1 rfl (lv_room (Nat.le_of_ble_eq_true rfl)) dX7_cycleIn_2 ⟨Nat.le_of_ble_eq_true rfl, Nat.le_of_ble_eq_true rfl⟩) hS (fun q _ h => hFc q h) hFc (fun q _ h => hFc q h) (fun E ce q9 u t H1 locs ht hvm hw hB hz1 hk1 hS hce hcv hcl => ?_) (fun u r_1 t H1 locs ht hvm hw hB hz1 hk1 hS => ?_)
  · have hE := hB
    exact vx_out (fun x h => (hout x h).elim) hlocks hce hcv hcl (fun t2 ht2 hW2 => ⟨(), trivial, hE, hS.F ht2⟩) hS.2.2 (Nat.le_of_ble_eq_true rfl) (Nat.le_of_ble_eq_true rfl)
  exact hB.elim

def zs_c_X7_backIn : List Cond := .code yX7_backIn cX7_backIn 2 (some .int) :: (([.code yX7_find cX7_find 3 (some (.object "Haltingale$Machine")), .classLink RX7 301 "java/lang/IndexOutOfBoundsException", .initialized "java/lang/IndexOutOfBoundsException", .fieldLink RX7 148 "Haltingale" "machineCount" "I", .methodLink RX7 67 yX7_find, .instanceMethod yX7_find, .initialized RX7, .selects RX7 yX7_find yX7_find] : List Cond) ++ (vx_atS RX7 305 "java/lang/IndexOutOfBoundsException" ["java/lang/RuntimeException", "java/lang/Exception"]).filter goodWord ++ wsX70)
set_option maxHeartbeats 4000000 in
set_option maxRecDepth 100000 in
/-- backIn of no machine -/
theorem c_X7_backIn (l : Launch) (hnt : l.stackTraces = false) (dC : Nat → ClassId) (dI : Nat → Nat → Nat) (a0 : Nat) (h0 : Nat) (qm : Nat) (qt : Nat) (qw : Nat) (qc : Nat) (qb : Nat) (qg : Nat) (p0 : Int32) (sz : Nat)  : vx_Met l yX7_backIn zs_c_X7_backIn ({ frames := 7, cells := 1, slots := 6, locals := 104 }) (va_Pc [.ref h0, .int p0] (fun U => U.heap.size = sz ∧ va_P (dC, dI) vwCl [(h0, .inr (9, [.ref qm, .ref qt, .ref qw, .ref qc, .ref qb, .ref qg, .int 0, .int 0, .int 0, .int 0, .int 0]))] U.heap ∧ va_K (dC, dI) vwCl [] U ∧ va_D (fun _ => True) [(h0, .inr (9, [.ref qm, .ref qt, .ref qw, .ref qc, .ref qb, .ref qg, .int 0, .int 0, .int 0, .int 0, .int 0]))] ∧ zB a0 (va_A [(h0, .inr (9, [.ref qm, .ref qt, .ref qw, .ref qc, .ref qb, .ref qg, .int 0, .int 0, .int 0, .int 0, .int 0]))] sz) U U.heap)) (va_Qi (fun (r : Int32) (_ : Unit) => True) (fun _ t => False) (va_A [(h0, .inr (9, [.ref qm, .ref qt, .ref qw, .ref qc, .ref qb, .ref qg, .int 0, .int 0, .int 0, .int 0, .int 0]))] sz)) (vx_X (fun _ : Unit => True) (fun E _ _ => E = "java/lang/IndexOutOfBoundsException") (va_A [(h0, .inr (9, [.ref qm, .ref qt, .ref qw, .ref qc, .ref qb, .ref qg, .int 0, .int 0, .int 0, .int 0, .int 0]))] sz)) 1 6 (va_A [(h0, .inr (9, [.ref qm, .ref qt, .ref qw, .ref qc, .ref qb, .ref qg, .int 0, .int 0, .int 0, .int 0, .int 0]))] sz) := by
  refine vx_ofW (cc := cX7_backIn) (maxL := 2) (ret := (some .int)) (by decide) rfl ?_
  intro p e s m args below meth c s₁ B hml hout hv
  obtain ⟨rfl, hsz, hP, hK, hD0, hZ⟩ := hv
  have hx := B.exec
  have hb := B.bytes
  have hr := B.returns
  have hts := atoms_spec (ws := zs_c_X7_backIn) B.pre
  have hown : s.vm.findClass RX7 = some m.cls := findClass_of_methodNamed B.named
  have hlocks := B.notSynchronized
  subst hsz
  have hD := hD0.self (sz := s.heap.size)
  generalize hAe : va_A [(h0, .inr (9, [.ref qm, .ref qt, .ref qw, .ref qc, .ref qb, .ref qg, .int 0, .int 0, .int 0, .int 0, .int 0]))] s.heap.size = A at hD hZ ⊢
  have hA : ∀ q : Nat, s.heap.size ≤ q → A q := fun q h => by rw [← hAe]; exact Or.inr h
  have hS : va_S A s.heap s.heap [] := va_S.rf
  have hl := lv_entry ([.ref h0, .int p0]) (n := 2) (Nat.le_of_ble_eq_true rfl)
  rw [lg_entry_eq]
  generalize (lg_sl ([.ref h0, .int p0]) ++ List.replicate (2 - (lg_sl ([.ref h0, .int p0])).length) Slot.unset).toArray = ls at hl ⊢
  have hl : lv_has ls 2 [(0, .ref h0), (1, .int p0)] := hl
  refine lv_aload_n hx hb dX7_backIn_0 rfl (lv_at hl 0 rfl) ?_
  refine lv_aload_n hx hb dX7_backIn_1 rfl (lv_at hl 0 rfl) ?_
  refine lv_iload_n hx hb dX7_backIn_2 rfl (lv_at hl 1 rfl) ?_
  have hPc := hP.sub (ws' := [(h0, .inr (9, [.ref qm, .ref qt, .ref qw, .ref qc, .ref qb, .ref qg, .int 0, .int 0, .int 0, .int 0, .int 0]))]) [0] rfl
  have hDc := hD.sub (ws' := [(h0, .inr (9, [.ref qm, .ref qt, .ref qw, .ref qc, .ref qb, .ref qg, .int 0, .int 0, .int 0, .int 0, .int 0]))]) [0] (by decide) rfl
  have hKc := hK.sub (tys' := []) [] rfl
  have hFc := va_free (wc := [(h0, .inr (9, [.ref qm, .ref qt, .ref qw, .ref qc, .ref qb, .ref qg, .int 0, .int 0, .int 0, .int 0, .int 0]))]) hD hS hA [0] rfl
  have hZc := ((hZ.kept hS.2.1).narrow hFc)
  refine zz_callr (vx_runV (As := [.int p0]) (rest := [.ref h0]) ⟨hx, hb, hml, hown, hts⟩ (c_X7_find l hnt dC dI a0 h0 qm qt qw qc qb qg p0 s.heap.size ) (cwV 1 hts (goodIn_of _ (by decide +kernel)) rfl rfl rfl (by decide +kernel) ⟨Nat.le_of_ble_eq_true rfl, Nat.le_of_ble_eq_true rfl⟩) ⟨fun a U g mk q => by obtain ⟨q0, q1, qP, qK, qD, qZ⟩ := q; exact ⟨q0, q1, qP, va_K.moved (u := U) (U := U.calling g mk a) (Vm.Alike.refl U.vm) qK, qD, qZ.call⟩, va_recv hKc hPc (ci := 9) (q0 := 0) rfl rfl, fun U hU hW => ⟨rfl, by rw [hU], by rw [hU]; exact hPc, va_K.moved hW.alike hKc, hDc.weaken (fun _ _ _ _ => trivial), by rw [hU]; exact hZc.warm hW⟩⟩ rfl rfl hl.1 rfl (lv_room (Nat.le_of_ble_eq_true rfl)) dX7_backIn_3 ⟨Nat.le_of_ble_eq_true rfl, Nat.le_of_ble_eq_true rfl⟩) hS (fun q _ h => hFc q h) hFc (fun q _ h => hFc q h) (fun E ce q9 u t H1 locs ht hvm hw hB hz1 hk1 hS hce hcv hcl => ?_) (fun u r_1 t H1 locs ht hvm hw hB hz1 hk1 hS => ?_)
  · have hE := hB
    exact vx_out (fun x h => (hout x h).elim) hlocks hce hcv hcl (fun t2 ht2 hW2 => ⟨(), trivial, hE, hS.F ht2⟩) hS.2.2 (Nat.le_of_ble_eq_true rfl) (Nat.le_of_ble_eq_true rfl)
  exact hB.elim

def zs_c_X7_gramIn : List Cond := .code yX7_gramIn cX7_gramIn 2 (some .int) :: (([.fieldLink RX7 45 "Haltingale" "gram" "LHaltingale$Gram;", .code yX7_find cX7_find 3 (some (.object "Haltingale$Machine")), .classLink RX7 301 "java/lang/IndexOutOfBoundsException", .initialized "java/lang/IndexOutOfBoundsException", .fieldLink RX7 148 "Haltingale" "machineCount" "I", .methodLink RX7 67 yX7_find, .instanceMethod yX7_find, .initialized RX7, .selects RX7 yX7_find yX7_find] : List Cond) ++ wsX70 ++ (vx_atS RX7 305 "java/lang/IndexOutOfBoundsException" ["java/lang/RuntimeException", "java/lang/Exception"]).filter goodWord)
set_option maxHeartbeats 4000000 in
set_option maxRecDepth 100000 in
/-- gramIn of no machine -/
theorem c_X7_gramIn (l : Launch) (hnt : l.stackTraces = false) (dC : Nat → ClassId) (dI : Nat → Nat → Nat) (a0 : Nat) (h0 : Nat) (qm : Nat) (qt : Nat) (qw : Nat) (qc : Nat) (qb : Nat) (qg : Nat) (p0 : Int32) (sz : Nat)  : vx_Met l yX7_gramIn zs_c_X7_gramIn ({ frames := 7, cells := 1, slots := 6, locals := 104 }) (va_Pc [.ref h0, .int p0] (fun U => U.heap.size = sz ∧ va_P (dC, dI) vwCl [(h0, .inr (9, [.ref qm, .ref qt, .ref qw, .ref qc, .ref qb, .ref qg, .int 0, .int 0, .int 0, .int 0, .int 0]))] U.heap ∧ va_K (dC, dI) vwCl [] U ∧ va_D (fun _ => True) [(h0, .inr (9, [.ref qm, .ref qt, .ref qw, .ref qc, .ref qb, .ref qg, .int 0, .int 0, .int 0, .int 0, .int 0]))] ∧ zB a0 (va_A [(h0, .inr (9, [.ref qm, .ref qt, .ref qw, .ref qc, .ref qb, .ref qg, .int 0, .int 0, .int 0, .int 0, .int 0]))] sz) U U.heap)) (va_Qi (fun (r : Int32) (_ : Unit) => True) (fun _ t => False) (va_A [(h0, .inr (9, [.ref qm, .ref qt, .ref qw, .ref qc, .ref qb, .ref qg, .int 0, .int 0, .int 0, .int 0, .int 0]))] sz)) (vx_X (fun _ : Unit => True) (fun E _ _ => E = "java/lang/IndexOutOfBoundsException") (va_A [(h0, .inr (9, [.ref qm, .ref qt, .ref qw, .ref qc, .ref qb, .ref qg, .int 0, .int 0, .int 0, .int 0, .int 0]))] sz)) 1 6 (va_A [(h0, .inr (9, [.ref qm, .ref qt, .ref qw, .ref qc, .ref qb, .ref qg, .int 0, .int 0, .int 0, .int 0, .int 0]))] sz) := by
  refine vx_ofW (cc := cX7_gramIn) (maxL := 2) (ret := (some .int)) (by decide) rfl ?_
  intro p e s m args below meth c s₁ B hml hout hv
  obtain ⟨rfl, hsz, hP, hK, hD0, hZ⟩ := hv
  have hx := B.exec
  have hb := B.bytes
  have hr := B.returns
  have hts := atoms_spec (ws := zs_c_X7_gramIn) B.pre
  have hown : s.vm.findClass RX7 = some m.cls := findClass_of_methodNamed B.named
  have hlocks := B.notSynchronized
  have hiX7 : ∀ w ∈ wsX70, w ∈ zs_c_X7_gramIn := by decide +kernel
  subst hsz
  have hD := hD0.self (sz := s.heap.size)
  generalize hAe : va_A [(h0, .inr (9, [.ref qm, .ref qt, .ref qw, .ref qc, .ref qb, .ref qg, .int 0, .int 0, .int 0, .int 0, .int 0]))] s.heap.size = A at hD hZ ⊢
  have hA : ∀ q : Nat, s.heap.size ≤ q → A q := fun q h => by rw [← hAe]; exact Or.inr h
  have hS : va_S A s.heap s.heap [] := va_S.rf
  have hl := lv_entry ([.ref h0, .int p0]) (n := 2) (Nat.le_of_ble_eq_true rfl)
  rw [lg_entry_eq]
  generalize (lg_sl ([.ref h0, .int p0]) ++ List.replicate (2 - (lg_sl ([.ref h0, .int p0])).length) Slot.unset).toArray = ls at hl ⊢
  have hl : lv_has ls 2 [(0, .ref h0), (1, .int p0)] := hl
  refine lv_aload_n hx hb dX7_gramIn_0 rfl (lv_at hl 0 rfl) ?_
  refine va_get (D := (dC, dI)) (ci := 9) (v := .ref qg) (C := RX7) (T := TX7) (N := 11) hx hb hts hiX7 hown hK hP 0 rfl rfl 5 (by decide) (hts (.fieldLink RX7 45 "Haltingale" "gram" "LHaltingale$Gram;") (by decide +kernel)) (fun _ h9 => h9) rfl dX7_gramIn_1 ?_
  refine lv_aload_n hx hb dX7_gramIn_4 rfl (lv_at hl 0 rfl) ?_
  refine lv_iload_n hx hb dX7_gramIn_5 rfl (lv_at hl 1 rfl) ?_
  have hPc := hP.sub (ws' := [(h0, .inr (9, [.ref qm, .ref qt, .ref qw, .ref qc, .ref qb, .ref qg, .int 0, .int 0, .int 0, .int 0, .int 0]))]) [0] rfl
  have hDc := hD.sub (ws' := [(h0, .inr (9, [.ref qm, .ref qt, .ref qw, .ref qc, .ref qb, .ref qg, .int 0, .int 0, .int 0, .int 0, .int 0]))]) [0] (by decide) rfl
  have hKc := hK.sub (tys' := []) [] rfl
  have hFc := va_free (wc := [(h0, .inr (9, [.ref qm, .ref qt, .ref qw, .ref qc, .ref qb, .ref qg, .int 0, .int 0, .int 0, .int 0, .int 0]))]) hD hS hA [0] rfl
  have hZc := ((hZ.kept hS.2.1).narrow hFc)
  refine zz_callr (vx_runV (As := [.int p0]) (rest := [.ref qg]) ⟨hx, hb, hml, hown, hts⟩ (c_X7_find l hnt dC dI a0 h0 qm qt qw qc qb qg p0 s.heap.size ) (cwV 1 hts (goodIn_of _ (by decide +kernel)) rfl rfl rfl (by decide +kernel) ⟨Nat.le_of_ble_eq_true rfl, Nat.le_of_ble_eq_true rfl⟩) ⟨fun a U g mk q => by obtain ⟨q0, q1, qP, qK, qD, qZ⟩ := q; exact ⟨q0, q1, qP, va_K.moved (u := U) (U := U.calling g mk a) (Vm.Alike.refl U.vm) qK, qD, qZ.call⟩, va_recv hKc hPc (ci := 9) (q0 := 0) rfl rfl, fun U hU hW => ⟨rfl, by rw [hU], by rw [hU]; exact hPc, va_K.moved hW.alike hKc, hDc.weaken (fun _ _ _ _ => trivial), by rw [hU]; exact hZc.warm hW⟩⟩ rfl rfl hl.1 rfl (lv_room (Nat.le_of_ble_eq_true rfl)) dX7_gramIn_6 ⟨Nat.le_of_ble_eq_true rfl, Nat.le_of_ble_eq_true rfl⟩) hS (fun q _ h => hFc q h) hFc (fun q _ h => hFc q h) (fun E ce q9 u t H1 locs ht hvm hw hB hz1 hk1 hS hce hcv hcl => ?_) (fun u r_1 t H1 locs ht hvm hw hB hz1 hk1 hS => ?_)
  · have hE := hB
    exact vx_out (fun x h => (hout x h).elim) hlocks hce hcv hcl (fun t2 ht2 hW2 => ⟨(), trivial, hE, hS.F ht2⟩) hS.2.2 (Nat.le_of_ble_eq_true rfl) (Nat.le_of_ble_eq_true rfl)
  exact hB.elim

def zs_c_X7_tagged : List Cond := .code yX7_tagged cX7_tagged 7 (some .int) :: (([.code yX7_findTag cX7_findTag 3 (some (.object "Haltingale$Tag")), .classLink RX7 301 "java/lang/IndexOutOfBoundsException", .initialized "java/lang/IndexOutOfBoundsException", .fieldLink RX7 122 "Haltingale" "tagCount" "I", .methodLink RX7 242 yX7_findTag, .instanceMethod yX7_findTag, .initialized RX7, .selects RX7 yX7_findTag yX7_findTag] : List Cond) ++ (vx_atS RX7 305 "java/lang/IndexOutOfBoundsException" ["java/lang/RuntimeException", "java/lang/Exception"]).filter goodWord ++ wsX70)
set_option maxHeartbeats 4000000 in
set_option maxRecDepth 100000 in
/-- tagged of no machine -/
theorem c_X7_tagged (l : Launch) (hnt : l.stackTraces = false) (dC : Nat → ClassId) (dI : Nat → Nat → Nat) (a0 : Nat) (h0 : Nat) (qm : Nat) (qt : Nat) (qw : Nat) (qc : Nat) (qb : Nat) (qg : Nat) (p0 : Int32) (p1 : Int32) (p2 : Int32) (sz : Nat)  : vx_Met l yX7_tagged zs_c_X7_tagged ({ frames := 7, cells := 1, slots := 6, locals := 104 }) (va_Pc [.ref h0, .int p0, .int p1, .int p2] (fun U => U.heap.size = sz ∧ va_P (dC, dI) vwCl [(h0, .inr (9, [.ref qm, .ref qt, .ref qw, .ref qc, .ref qb, .ref qg, .int 0, .int 0, .int 0, .int 0, .int 0]))] U.heap ∧ va_K (dC, dI) vwCl [] U ∧ va_D (fun _ => True) [(h0, .inr (9, [.ref qm, .ref qt, .ref qw, .ref qc, .ref qb, .ref qg, .int 0, .int 0, .int 0, .int 0, .int 0]))] ∧ zB a0 (va_A [(h0, .inr (9, [.ref qm, .ref qt, .ref qw, .ref qc, .ref qb, .ref qg, .int 0, .int 0, .int 0, .int 0, .int 0]))] sz) U U.heap)) (va_Qi (fun (r : Int32) (_ : Unit) => True) (fun _ t => False) (va_A [(h0, .inr (9, [.ref qm, .ref qt, .ref qw, .ref qc, .ref qb, .ref qg, .int 0, .int 0, .int 0, .int 0, .int 0]))] sz)) (vx_X (fun _ : Unit => True) (fun E _ _ => E = "java/lang/IndexOutOfBoundsException") (va_A [(h0, .inr (9, [.ref qm, .ref qt, .ref qw, .ref qc, .ref qb, .ref qg, .int 0, .int 0, .int 0, .int 0, .int 0]))] sz)) 1 6 (va_A [(h0, .inr (9, [.ref qm, .ref qt, .ref qw, .ref qc, .ref qb, .ref qg, .int 0, .int 0, .int 0, .int 0, .int 0]))] sz) := by
  refine vx_ofW (cc := cX7_tagged) (maxL := 7) (ret := (some .int)) (by decide) rfl ?_
  intro p e s m args below meth c s₁ B hml hout hv
  obtain ⟨rfl, hsz, hP, hK, hD0, hZ⟩ := hv
  have hx := B.exec
  have hb := B.bytes
  have hr := B.returns
  have hts := atoms_spec (ws := zs_c_X7_tagged) B.pre
  have hown : s.vm.findClass RX7 = some m.cls := findClass_of_methodNamed B.named
  have hlocks := B.notSynchronized
  subst hsz
  have hD := hD0.self (sz := s.heap.size)
  generalize hAe : va_A [(h0, .inr (9, [.ref qm, .ref qt, .ref qw, .ref qc, .ref qb, .ref qg, .int 0, .int 0, .int 0, .int 0, .int 0]))] s.heap.size = A at hD hZ ⊢
  have hA : ∀ q : Nat, s.heap.size ≤ q → A q := fun q h => by rw [← hAe]; exact Or.inr h
  have hS : va_S A s.heap s.heap [] := va_S.rf
  have hl := lv_entry ([.ref h0, .int p0, .int p1, .int p2]) (n := 7) (Nat.le_of_ble_eq_true rfl)
  rw [lg_entry_eq]
  generalize (lg_sl ([.ref h0, .int p0, .int p1, .int p2]) ++ List.replicate (7 - (lg_sl ([.ref h0, .int p0, .int p1, .int p2])).length) Slot.unset).toArray = ls at hl ⊢
  have hl : lv_has ls 7 [(0, .ref h0), (1, .int p0), (2, .int p1), (3, .int p2)] := hl
  refine lv_aload_n hx hb dX7_tagged_0 rfl (lv_at hl 0 rfl) ?_
  refine lv_iload_n hx hb dX7_tagged_1 rfl (lv_at hl 1 rfl) ?_
  have hPc := hP.sub (ws' := [(h0, .inr (9, [.ref qm, .ref qt, .ref qw, .ref qc, .ref qb, .ref qg, .int 0, .int 0, .int 0, .int 0, .int 0]))]) [0] rfl
  have hDc := hD.sub (ws' := [(h0, .inr (9, [.ref qm, .ref qt, .ref qw, .ref qc, .ref qb, .ref qg, .int 0, .int 0, .int 0, .int 0, .int 0]))]) [0] (by decide) rfl
  have hKc := hK.sub (tys' := []) [] rfl
  have hFc := va_free (wc := [(h0, .inr (9, [.ref qm, .ref qt, .ref qw, .ref qc, .ref qb, .ref qg, .int 0, .int 0, .int 0, .int 0, .int 0]))]) hD hS hA [0] rfl
  have hZc := ((hZ.kept hS.2.1).narrow hFc)
  refine zz_callr (vx_runV (As := [.int p0]) (rest := []) ⟨hx, hb, hml, hown, hts⟩ (c_X7_findTag l hnt dC dI a0 h0 qm qt qw qc qb qg p0 s.heap.size ) (cwV 1 hts (goodIn_of _ (by decide +kernel)) rfl rfl rfl (by decide +kernel) ⟨Nat.le_of_ble_eq_true rfl, Nat.le_of_ble_eq_true rfl⟩) ⟨fun a U g mk q => by obtain ⟨q0, q1, qP, qK, qD, qZ⟩ := q; exact ⟨q0, q1, qP, va_K.moved (u := U) (U := U.calling g mk a) (Vm.Alike.refl U.vm) qK, qD, qZ.call⟩, va_recv hKc hPc (ci := 9) (q0 := 0) rfl rfl, fun U hU hW => ⟨rfl, by rw [hU], by rw [hU]; exact hPc, va_K.moved hW.alike hKc, hDc.weaken (fun _ _ _ _ => trivial), by rw [hU]; exact hZc.warm hW⟩⟩ rfl rfl hl.1 rfl (lv_room (Nat.le_of_ble_eq_true rfl)) dX7_tagged_2 ⟨Nat.le_of_ble_eq_true rfl, Nat.le_of_ble_eq_true rfl⟩) hS (fun q _ h => hFc q h) hFc (fun q _ h => hFc q h) (fun E ce q9 u t H1 locs ht hvm hw hB hz1 hk1 hS hce hcv hcl => ?_) (fun u r_1 t H1 locs ht hvm hw hB hz1 hk1 hS => ?_)
  · have hE := hB
    exact vx_out (fun x h => (hout x h).elim) hlocks hce hcv hcl (fun t2 ht2 hW2 => ⟨(), trivial, hE, hS.F ht2⟩) hS.2.2 (Nat.le_of_ble_eq_true rfl) (Nat.le_of_ble_eq_true rfl)
  exact hB.elim

def zs_c_X7_doubt_no : List Cond := .code yX7_doubt cX7_doubt 5 (some .int) :: (([.code yX7_isWithin cX7_isWithin 3 (some .boolean), .methodLink RX7 49 yX7_isWithin, .static yX7_isWithin, .initialized RX7, .code yX7_require cX7_require 1 none, .classLink RX7 292 "java/lang/IllegalArgumentException", .initialized "java/lang/IllegalArgumentException", .methodLink RX7 53 yX7_require, .static yX7_require] : List Cond) ++ (vx_atS RX7 296 "java/lang/IllegalArgumentException" ["java/lang/RuntimeException", "java/lang/Exception"]).filter goodWord)
set_option maxHeartbeats 4000000 in
set_option maxRecDepth 100000 in
/-- doubt, out of its range -/
theorem c_X7_doubt_no (l : Launch) (hnt : l.stackTraces = false) (dC : Nat → ClassId) (dI : Nat → Nat → Nat) (a0 : Nat) (h0 : Nat) (qm : Nat) (qt : Nat) (qw : Nat) (qc : Nat) (qb : Nat) (qg : Nat) (p0 : Int32) (sz : Nat) (hp : zw p0 0 3 = 0) : vx_Met l yX7_doubt zs_c_X7_doubt_no ({ frames := 7, cells := 1, slots := 6, locals := 102 }) (va_Pc [.ref h0, .int p0] (fun U => U.heap.size = sz ∧ va_P (dC, dI) vwCl [(h0, .inr (9, [.ref qm, .ref qt, .ref qw, .ref qc, .ref qb, .ref qg, .int 0, .int 0, .int 0, .int 0, .int 0]))] U.heap ∧ va_K (dC, dI) vwCl [] U ∧ va_D (fun _ => True) [(h0, .inr (9, [.ref qm, .ref qt, .ref qw, .ref qc, .ref qb, .ref qg, .int 0, .int 0, .int 0, .int 0, .int 0]))] ∧ zB a0 (va_A [(h0, .inr (9, [.ref qm, .ref qt, .ref qw, .ref qc, .ref qb, .ref qg, .int 0, .int 0, .int 0, .int 0, .int 0]))] sz) U U.heap)) (va_Qi (fun (r : Int32) (_ : Unit) => True) (fun _ t => False) (va_A [(h0, .inr (9, [.ref qm, .ref qt, .ref qw, .ref qc, .ref qb, .ref qg, .int 0, .int 0, .int 0, .int 0, .int 0]))] sz)) (vx_X (fun _ : Unit => True) (fun E _ _ => E = "java/lang/IllegalArgumentException") (va_A [(h0, .inr (9, [.ref qm, .ref qt, .ref qw, .ref qc, .ref qb, .ref qg, .int 0, .int 0, .int 0, .int 0, .int 0]))] sz)) 1 6 (va_A [(h0, .inr (9, [.ref qm, .ref qt, .ref qw, .ref qc, .ref qb, .ref qg, .int 0, .int 0, .int 0, .int 0, .int 0]))] sz) := by
  refine vx_ofW (cc := cX7_doubt) (maxL := 5) (ret := (some .int)) (by decide) rfl ?_
  intro p e s m args below meth c s₁ B hml hout hv
  obtain ⟨rfl, hsz, hP, hK, hD0, hZ⟩ := hv
  have hx := B.exec
  have hb := B.bytes
  have hr := B.returns
  have hts := atoms_spec (ws := zs_c_X7_doubt_no) B.pre
  have hown : s.vm.findClass RX7 = some m.cls := findClass_of_methodNamed B.named
  have hlocks := B.notSynchronized
  subst hsz
  have hD := hD0.self (sz := s.heap.size)
  generalize hAe : va_A [(h0, .inr (9, [.ref qm, .ref qt, .ref qw, .ref qc, .ref qb, .ref qg, .int 0, .int 0, .int 0, .int 0, .int 0]))] s.heap.size = A at hD hZ ⊢
  have hA : ∀ q : Nat, s.heap.size ≤ q → A q := fun q h => by rw [← hAe]; exact Or.inr h
  have hS : va_S A s.heap s.heap [] := va_S.rf
  have hl := lv_entry ([.ref h0, .int p0]) (n := 5) (Nat.le_of_ble_eq_true rfl)
  rw [lg_entry_eq]
  generalize (lg_sl ([.ref h0, .int p0]) ++ List.replicate (5 - (lg_sl ([.ref h0, .int p0])).length) Slot.unset).toArray = ls at hl ⊢
  have hl : lv_has ls 5 [(0, .ref h0), (1, .int p0)] := hl
  refine lv_iload_n hx hb dX7_doubt_0 rfl (lv_at hl 1 rfl) ?_
  refine lv_iconst (v := 0) hx hb dX7_doubt_1 (by decide) ?_
  refine lv_iconst (v := 3) hx hb dX7_doubt_2 (by decide) ?_
  have hPc := hP.sub (ws' := []) [] rfl
  have hDc := hD.sub (ws' := []) [] (by decide) rfl
  have hKc := hK.sub (tys' := []) [] rfl
  have hFc := va_free (wc := []) hD hS hA [] rfl
  have hZc := ((hZ.kept hS.2.1).narrow hFc)
  refine va_calli (va_runS (As := [.int p0, .int 0, .int 3]) (rest := []) ⟨hx, hb, hml, hown, hts⟩ (c_X7_isWithin l hnt dC dI a0 p0 0 3 s.heap.size ) (va_cwS 3 hts (goodIn_of _ (by decide +kernel)) rfl rfl rfl (by decide +kernel) ⟨Nat.le_of_ble_eq_true rfl, Nat.le_of_ble_eq_true rfl⟩) ⟨fun a U g mk q => by obtain ⟨q0, q1, qP, qK, qD, qZ⟩ := q; exact ⟨q0, q1, qP, va_K.moved (u := U) (U := U.calling g mk a) (Vm.Alike.refl U.vm) qK, qD, qZ.call⟩, fun U hU hW => ⟨rfl, by rw [hU], by rw [hU]; exact hPc, va_K.moved hW.alike hKc, hDc.weaken (fun _ _ _ _ => trivial), by rw [hU]; exact hZc.warm hW⟩⟩ rfl rfl hl.1 rfl (lv_room (Nat.le_of_ble_eq_true rfl)) dX7_doubt_3 ⟨Nat.le_of_ble_eq_true rfl, Nat.le_of_ble_eq_true rfl⟩) hS (fun q _ h => hFc q h) hFc (fun r_1 u t H1 locs ht hvm hw hB hz1 hk1 hS => ?_)
  obtain ⟨hP1, hK1, hD1⟩ := hB
  rw [ht] at hP1
  have hK1 := va_K.moved hvm.symm hK1
  obtain ⟨hP, hD⟩ := va_join (wr := [(h0, .inr (9, [.ref qm, .ref qt, .ref qw, .ref qc, .ref qb, .ref qg, .int 0, .int 0, .int 0, .int 0, .int 0]))]) (w1 := []) hP hD [] [0] rfl rfl (by decide) (by decide) hk1 hFc hP1 hD1
  have hK := (hK.sub (tys' := []) [] rfl).app hK1
  generalize H1 = H at hP hS ⊢
  have hP : va_P (dC, dI) vwCl [(h0, .inr (9, [.ref qm, .ref qt, .ref qw, .ref qc, .ref qb, .ref qg, .int 0, .int 0, .int 0, .int 0, .int 0]))] H := hP
  have hD : va_D A [(h0, .inr (9, [.ref qm, .ref qt, .ref qw, .ref qc, .ref qb, .ref qg, .int 0, .int 0, .int 0, .int 0, .int 0]))] := hD
  have hK : va_K (dC, dI) vwCl [] s := hK
  refine W.widen (k := 0) (n := 0) (Nat.le_of_ble_eq_true rfl) (Nat.le_of_ble_eq_true rfl) ?_
  obtain rfl : r_1 = 0 := hw.trans (hp)
  have hPc := hP.sub (ws' := []) [] rfl
  have hDc := hD.sub (ws' := []) [] (by decide) rfl
  have hKc := hK.sub (tys' := []) [] rfl
  have hFc := va_free (wc := []) hD hS hA [] rfl
  have hZc := ((hZ.kept hS.2.1).narrow hFc)
  refine vx_callv (vx_runS (As := [.int 0]) (rest := []) ⟨hx, hb, hml, hown, hts⟩ (c_X7_require_no l hnt dC dI a0  H.size ) (va_cwS 1 hts (goodIn_of _ (by decide +kernel)) rfl rfl rfl (by decide +kernel) ⟨Nat.le_of_ble_eq_true rfl, Nat.le_of_ble_eq_true rfl⟩) ⟨fun a U g mk q => by obtain ⟨q0, q1, qP, qK, qD, qZ⟩ := q; exact ⟨q0, q1, qP, va_K.moved (u := U) (U := U.calling g mk a) (Vm.Alike.refl U.vm) qK, qD, qZ.call⟩, fun U hU hW => ⟨rfl, by rw [hU], by rw [hU]; exact hPc, va_K.moved hW.alike hKc, hDc.weaken (fun _ _ _ _ => trivial), by rw [hU]; exact hZc.warm hW⟩⟩ rfl rfl hl.1 rfl (lv_room (Nat.le_of_ble_eq_true rfl)) dX7_doubt_6 ⟨Nat.le_of_ble_eq_true rfl, Nat.le_of_ble_eq_true rfl⟩) hS (fun q _ h => hFc q h) hFc (fun q _ h => hFc q h) (fun E ce q9 u t H1 locs ht hvm hw hB hz1 hk1 hS hce hcv hcl => ?_) (fun u t H1 locs ht hvm hw hB hz1 hk1 hS => ?_)
  · have hE := hB
    exact vx_out (fun x h => (hout x h).elim) hlocks hce hcv hcl (fun t2 ht2 hW2 => ⟨(), trivial, hE, hS.F ht2⟩) hS.2.2 (Nat.le_of_ble_eq_true rfl) (Nat.le_of_ble_eq_true rfl)
  exact hB.elim

def zs_c_X7_champion_no : List Cond := .code yX7_champion cX7_champion 7 (some .int) :: (([.code yX7_isWithin cX7_isWithin 3 (some .boolean), .methodLink RX7 49 yX7_isWithin, .static yX7_isWithin, .initialized RX7, .code yX7_require cX7_require 1 none, .classLink RX7 292 "java/lang/IllegalArgumentException", .initialized "java/lang/IllegalArgumentException", .methodLink RX7 53 yX7_require, .static yX7_require] : List Cond) ++ (vx_atS RX7 296 "java/lang/IllegalArgumentException" ["java/lang/RuntimeException", "java/lang/Exception"]).filter goodWord)
set_option maxHeartbeats 4000000 in
set_option maxRecDepth 100000 in
/-- champion, out of its range -/
theorem c_X7_champion_no (l : Launch) (hnt : l.stackTraces = false) (dC : Nat → ClassId) (dI : Nat → Nat → Nat) (a0 : Nat) (h0 : Nat) (qm : Nat) (qt : Nat) (qw : Nat) (qc : Nat) (qb : Nat) (qg : Nat) (p0 : Int32) (sz : Nat) (hp : zw p0 0 1 = 0) : vx_Met l yX7_champion zs_c_X7_champion_no ({ frames := 7, cells := 1, slots := 6, locals := 102 }) (va_Pc [.ref h0, .int p0] (fun U => U.heap.size = sz ∧ va_P (dC, dI) vwCl [(h0, .inr (9, [.ref qm, .ref qt, .ref qw, .ref qc, .ref qb, .ref qg, .int 0, .int 0, .int 0, .int 0, .int 0]))] U.heap ∧ va_K (dC, dI) vwCl [] U ∧ va_D (fun _ => True) [(h0, .inr (9, [.ref qm, .ref qt, .ref qw, .ref qc, .ref qb, .ref qg, .int 0, .int 0, .int 0, .int 0, .int 0]))] ∧ zB a0 (va_A [(h0, .inr (9, [.ref qm, .ref qt, .ref qw, .ref qc, .ref qb, .ref qg, .int 0, .int 0, .int 0, .int 0, .int 0]))] sz) U U.heap)) (va_Qi (fun (r : Int32) (_ : Unit) => True) (fun _ t => False) (va_A [(h0, .inr (9, [.ref qm, .ref qt, .ref qw, .ref qc, .ref qb, .ref qg, .int 0, .int 0, .int 0, .int 0, .int 0]))] sz)) (vx_X (fun _ : Unit => True) (fun E _ _ => E = "java/lang/IllegalArgumentException") (va_A [(h0, .inr (9, [.ref qm, .ref qt, .ref qw, .ref qc, .ref qb, .ref qg, .int 0, .int 0, .int 0, .int 0, .int 0]))] sz)) 1 6 (va_A [(h0, .inr (9, [.ref qm, .ref qt, .ref qw, .ref qc, .ref qb, .ref qg, .int 0, .int 0, .int 0, .int 0, .int 0]))] sz) := by
  refine vx_ofW (cc := cX7_champion) (maxL := 7) (ret := (some .int)) (by decide) rfl ?_
  intro p e s m args below meth c s₁ B hml hout hv
  obtain ⟨rfl, hsz, hP, hK, hD0, hZ⟩ := hv
  have hx := B.exec
  have hb := B.bytes
  have hr := B.returns
  have hts := atoms_spec (ws := zs_c_X7_champion_no) B.pre
  have hown : s.vm.findClass RX7 = some m.cls := findClass_of_methodNamed B.named
  have hlocks := B.notSynchronized
  subst hsz
  have hD := hD0.self (sz := s.heap.size)
  generalize hAe : va_A [(h0, .inr (9, [.ref qm, .ref qt, .ref qw, .ref qc, .ref qb, .ref qg, .int 0, .int 0, .int 0, .int 0, .int 0]))] s.heap.size = A at hD hZ ⊢
  have hA : ∀ q : Nat, s.heap.size ≤ q → A q := fun q h => by rw [← hAe]; exact Or.inr h
  have hS : va_S A s.heap s.heap [] := va_S.rf
  have hl := lv_entry ([.ref h0, .int p0]) (n := 7) (Nat.le_of_ble_eq_true rfl)
  rw [lg_entry_eq]
  generalize (lg_sl ([.ref h0, .int p0]) ++ List.replicate (7 - (lg_sl ([.ref h0, .int p0])).length) Slot.unset).toArray = ls at hl ⊢
  have hl : lv_has ls 7 [(0, .ref h0), (1, .int p0)] := hl
  refine lv_iload_n hx hb dX7_champion_0 rfl (lv_at hl 1 rfl) ?_
  refine lv_iconst (v := 0) hx hb dX7_champion_1 (by decide) ?_
  refine lv_iconst (v := 1) hx hb dX7_champion_2 (by decide) ?_
  have hPc := hP.sub (ws' := []) [] rfl
  have hDc := hD.sub (ws' := []) [] (by decide) rfl
  have hKc := hK.sub (tys' := []) [] rfl
  have hFc := va_free (wc := []) hD hS hA [] rfl
  have hZc := ((hZ.kept hS.2.1).narrow hFc)
  refine va_calli (va_runS (As := [.int p0, .int 0, .int 1]) (rest := []) ⟨hx, hb, hml, hown, hts⟩ (c_X7_isWithin l hnt dC dI a0 p0 0 1 s.heap.size ) (va_cwS 3 hts (goodIn_of _ (by decide +kernel)) rfl rfl rfl (by decide +kernel) ⟨Nat.le_of_ble_eq_true rfl, Nat.le_of_ble_eq_true rfl⟩) ⟨fun a U g mk q => by obtain ⟨q0, q1, qP, qK, qD, qZ⟩ := q; exact ⟨q0, q1, qP, va_K.moved (u := U) (U := U.calling g mk a) (Vm.Alike.refl U.vm) qK, qD, qZ.call⟩, fun U hU hW => ⟨rfl, by rw [hU], by rw [hU]; exact hPc, va_K.moved hW.alike hKc, hDc.weaken (fun _ _ _ _ => trivial), by rw [hU]; exact hZc.warm hW⟩⟩ rfl rfl hl.1 rfl (lv_room (Nat.le_of_ble_eq_true rfl)) dX7_champion_3 ⟨Nat.le_of_ble_eq_true rfl, Nat.le_of_ble_eq_true rfl⟩) hS (fun q _ h => hFc q h) hFc (fun r_1 u t H1 locs ht hvm hw hB hz1 hk1 hS => ?_)
  obtain ⟨hP1, hK1, hD1⟩ := hB
  rw [ht] at hP1
  have hK1 := va_K.moved hvm.symm hK1
  obtain ⟨hP, hD⟩ := va_join (wr := [(h0, .inr (9, [.ref qm, .ref qt, .ref qw, .ref qc, .ref qb, .ref qg, .int 0, .int 0, .int 0, .int 0, .int 0]))]) (w1 := []) hP hD [] [0] rfl rfl (by decide) (by decide) hk1 hFc hP1 hD1
  have hK := (hK.sub (tys' := []) [] rfl).app hK1
  generalize H1 = H at hP hS ⊢
  have hP : va_P (dC, dI) vwCl [(h0, .inr (9, [.ref qm, .ref qt, .ref qw, .ref qc, .ref qb, .ref qg, .int 0, .int 0, .int 0, .int 0, .int 0]))] H := hP
  have hD : va_D A [(h0, .inr (9, [.ref qm, .ref qt, .ref qw, .ref qc, .ref qb, .ref qg, .int 0, .int 0, .int 0, .int 0, .int 0]))] := hD
  have hK : va_K (dC, dI) vwCl [] s := hK
  refine W.widen (k := 0) (n := 0) (Nat.le_of_ble_eq_true rfl) (Nat.le_of_ble_eq_true rfl) ?_
  obtain rfl : r_1 = 0 := hw.trans (hp)
  have hPc := hP.sub (ws' := []) [] rfl
  have hDc := hD.sub (ws' := []) [] (by decide) rfl
  have hKc := hK.sub (tys' := []) [] rfl
  have hFc := va_free (wc := []) hD hS hA [] rfl
  have hZc := ((hZ.kept hS.2.1).narrow hFc)
  refine vx_callv (vx_runS (As := [.int 0]) (rest := []) ⟨hx, hb, hml, hown, hts⟩ (c_X7_require_no l hnt dC dI a0  H.size ) (va_cwS 1 hts (goodIn_of _ (by decide +kernel)) rfl rfl rfl (by decide +kernel) ⟨Nat.le_of_ble_eq_true rfl, Nat.le_of_ble_eq_true rfl⟩) ⟨fun a U g mk q => by obtain ⟨q0, q1, qP, qK, qD, qZ⟩ := q; exact ⟨q0, q1, qP, va_K.moved (u := U) (U := U.calling g mk a) (Vm.Alike.refl U.vm) qK, qD, qZ.call⟩, fun U hU hW => ⟨rfl, by rw [hU], by rw [hU]; exact hPc, va_K.moved hW.alike hKc, hDc.weaken (fun _ _ _ _ => trivial), by rw [hU]; exact hZc.warm hW⟩⟩ rfl rfl hl.1 rfl (lv_room (Nat.le_of_ble_eq_true rfl)) dX7_champion_6 ⟨Nat.le_of_ble_eq_true rfl, Nat.le_of_ble_eq_true rfl⟩) hS (fun q _ h => hFc q h) hFc (fun q _ h => hFc q h) (fun E ce q9 u t H1 locs ht hvm hw hB hz1 hk1 hS hce hcv hcl => ?_) (fun u t H1 locs ht hvm hw hB hz1 hk1 hS => ?_)
  · have hE := hB
    exact vx_out (fun x h => (hout x h).elim) hlocks hce hcv hcl (fun t2 ht2 hW2 => ⟨(), trivial, hE, hS.F ht2⟩) hS.2.2 (Nat.le_of_ble_eq_true rfl) (Nat.le_of_ble_eq_true rfl)
  exact hB.elim

def zs_c_X7_many_no : List Cond := .code yX7_many cX7_many 2 (some .int) :: (([.code yX7_isWithin cX7_isWithin 3 (some .boolean), .methodLink RX7 49 yX7_isWithin, .static yX7_isWithin, .initialized RX7, .code yX7_require cX7_require 1 none, .classLink RX7 292 "java/lang/IllegalArgumentException", .initialized "java/lang/IllegalArgumentException", .methodLink RX7 53 yX7_require, .static yX7_require] : List Cond) ++ (vx_atS RX7 296 "java/lang/IllegalArgumentException" ["java/lang/RuntimeException", "java/lang/Exception"]).filter goodWord)
set_option maxHeartbeats 4000000 in
set_option maxRecDepth 100000 in
/-- many, out of its range -/
theorem c_X7_many_no (l : Launch) (hnt : l.stackTraces = false) (dC : Nat → ClassId) (dI : Nat → Nat → Nat) (a0 : Nat) (h0 : Nat) (qm : Nat) (qt : Nat) (qw : Nat) (qc : Nat) (qb : Nat) (qg : Nat) (p0 : Int32) (sz : Nat) (hp : zw p0 0 10 = 0) : vx_Met l yX7_many zs_c_X7_many_no ({ frames := 7, cells := 1, slots := 6, locals := 102 }) (va_Pc [.ref h0, .int p0] (fun U => U.heap.size = sz ∧ va_P (dC, dI) vwCl [(h0, .inr (9, [.ref qm, .ref qt, .ref qw, .ref qc, .ref qb, .ref qg, .int 0, .int 0, .int 0, .int 0, .int 0]))] U.heap ∧ va_K (dC, dI) vwCl [] U ∧ va_D (fun _ => True) [(h0, .inr (9, [.ref qm, .ref qt, .ref qw, .ref qc, .ref qb, .ref qg, .int 0, .int 0, .int 0, .int 0, .int 0]))] ∧ zB a0 (va_A [(h0, .inr (9, [.ref qm, .ref qt, .ref qw, .ref qc, .ref qb, .ref qg, .int 0, .int 0, .int 0, .int 0, .int 0]))] sz) U U.heap)) (va_Qi (fun (r : Int32) (_ : Unit) => True) (fun _ t => False) (va_A [(h0, .inr (9, [.ref qm, .ref qt, .ref qw, .ref qc, .ref qb, .ref qg, .int 0, .int 0, .int 0, .int 0, .int 0]))] sz)) (vx_X (fun _ : Unit => True) (fun E _ _ => E = "java/lang/IllegalArgumentException") (va_A [(h0, .inr (9, [.ref qm, .ref qt, .ref qw, .ref qc, .ref qb, .ref qg, .int 0, .int 0, .int 0, .int 0, .int 0]))] sz)) 1 6 (va_A [(h0, .inr (9, [.ref qm, .ref qt, .ref qw, .ref qc, .ref qb, .ref qg, .int 0, .int 0, .int 0, .int 0, .int 0]))] sz) := by
  refine vx_ofW (cc := cX7_many) (maxL := 2) (ret := (some .int)) (by decide) rfl ?_
  intro p e s m args below meth c s₁ B hml hout hv
  obtain ⟨rfl, hsz, hP, hK, hD0, hZ⟩ := hv
  have hx := B.exec
  have hb := B.bytes
  have hr := B.returns
  have hts := atoms_spec (ws := zs_c_X7_many_no) B.pre
  have hown : s.vm.findClass RX7 = some m.cls := findClass_of_methodNamed B.named
  have hlocks := B.notSynchronized
  subst hsz
  have hD := hD0.self (sz := s.heap.size)
  generalize hAe : va_A [(h0, .inr (9, [.ref qm, .ref qt, .ref qw, .ref qc, .ref qb, .ref qg, .int 0, .int 0, .int 0, .int 0, .int 0]))] s.heap.size = A at hD hZ ⊢
  have hA : ∀ q : Nat, s.heap.size ≤ q → A q := fun q h => by rw [← hAe]; exact Or.inr h
  have hS : va_S A s.heap s.heap [] := va_S.rf
  have hl := lv_entry ([.ref h0, .int p0]) (n := 2) (Nat.le_of_ble_eq_true rfl)
  rw [lg_entry_eq]
  generalize (lg_sl ([.ref h0, .int p0]) ++ List.replicate (2 - (lg_sl ([.ref h0, .int p0])).length) Slot.unset).toArray = ls at hl ⊢
  have hl : lv_has ls 2 [(0, .ref h0), (1, .int p0)] := hl
  refine lv_iload_n hx hb dX7_many_0 rfl (lv_at hl 1 rfl) ?_
  refine lv_iconst (v := 0) hx hb dX7_many_1 (by decide) ?_
  refine lv_bipush (v := 10) hx hb dX7_many_2 (by decide) ?_
  have hPc := hP.sub (ws' := []) [] rfl
  have hDc := hD.sub (ws' := []) [] (by decide) rfl
  have hKc := hK.sub (tys' := []) [] rfl
  have hFc := va_free (wc := []) hD hS hA [] rfl
  have hZc := ((hZ.kept hS.2.1).narrow hFc)
  refine va_calli (va_runS (As := [.int p0, .int 0, .int 10]) (rest := []) ⟨hx, hb, hml, hown, hts⟩ (c_X7_isWithin l hnt dC dI a0 p0 0 10 s.heap.size ) (va_cwS 3 hts (goodIn_of _ (by decide +kernel)) rfl rfl rfl (by decide +kernel) ⟨Nat.le_of_ble_eq_true rfl, Nat.le_of_ble_eq_true rfl⟩) ⟨fun a U g mk q => by obtain ⟨q0, q1, qP, qK, qD, qZ⟩ := q; exact ⟨q0, q1, qP, va_K.moved (u := U) (U := U.calling g mk a) (Vm.Alike.refl U.vm) qK, qD, qZ.call⟩, fun U hU hW => ⟨rfl, by rw [hU], by rw [hU]; exact hPc, va_K.moved hW.alike hKc, hDc.weaken (fun _ _ _ _ => trivial), by rw [hU]; exact hZc.warm hW⟩⟩ rfl rfl hl.1 rfl (lv_room (Nat.le_of_ble_eq_true rfl)) dX7_many_4 ⟨Nat.le_of_ble_eq_true rfl, Nat.le_of_ble_eq_true rfl⟩) hS (fun q _ h => hFc q h) hFc (fun r_1 u t H1 locs ht hvm hw hB hz1 hk1 hS => ?_)
  obtain ⟨hP1, hK1, hD1⟩ := hB
  rw [ht] at hP1
  have hK1 := va_K.moved hvm.symm hK1
  obtain ⟨hP, hD⟩ := va_join (wr := [(h0, .inr (9, [.ref qm, .ref qt, .ref qw, .ref qc, .ref qb, .ref qg, .int 0, .int 0, .int 0, .int 0, .int 0]))]) (w1 := []) hP hD [] [0] rfl rfl (by decide) (by decide) hk1 hFc hP1 hD1
  have hK := (hK.sub (tys' := []) [] rfl).app hK1
  generalize H1 = H at hP hS ⊢
  have hP : va_P (dC, dI) vwCl [(h0, .inr (9, [.ref qm, .ref qt, .ref qw, .ref qc, .ref qb, .ref qg, .int 0, .int 0, .int 0, .int 0, .int 0]))] H := hP
  have hD : va_D A [(h0, .inr (9, [.ref qm, .ref qt, .ref qw, .ref qc, .ref qb, .ref qg, .int 0, .int 0, .int 0, .int 0, .int 0]))] := hD
  have hK : va_K (dC, dI) vwCl [] s := hK
  refine W.widen (k := 0) (n := 0) (Nat.le_of_ble_eq_true rfl) (Nat.le_of_ble_eq_true rfl) ?_
  obtain rfl : r_1 = 0 := hw.trans (hp)
  have hPc := hP.sub (ws' := []) [] rfl
  have hDc := hD.sub (ws' := []) [] (by decide) rfl
  have hKc := hK.sub (tys' := []) [] rfl
  have hFc := va_free (wc := []) hD hS hA [] rfl
  have hZc := ((hZ.kept hS.2.1).narrow hFc)
  refine vx_callv (vx_runS (As := [.int 0]) (rest := []) ⟨hx, hb, hml, hown, hts⟩ (c_X7_require_no l hnt dC dI a0  H.size ) (va_cwS 1 hts (goodIn_of _ (by decide +kernel)) rfl rfl rfl (by decide +kernel) ⟨Nat.le_of_ble_eq_true rfl, Nat.le_of_ble_eq_true rfl⟩) ⟨fun a U g mk q => by obtain ⟨q0, q1, qP, qK, qD, qZ⟩ := q; exact ⟨q0, q1, qP, va_K.moved (u := U) (U := U.calling g mk a) (Vm.Alike.refl U.vm) qK, qD, qZ.call⟩, fun U hU hW => ⟨rfl, by rw [hU], by rw [hU]; exact hPc, va_K.moved hW.alike hKc, hDc.weaken (fun _ _ _ _ => trivial), by rw [hU]; exact hZc.warm hW⟩⟩ rfl rfl hl.1 rfl (lv_room (Nat.le_of_ble_eq_true rfl)) dX7_many_7 ⟨Nat.le_of_ble_eq_true rfl, Nat.le_of_ble_eq_true rfl⟩) hS (fun q _ h => hFc q h) hFc (fun q _ h => hFc q h) (fun E ce q9 u t H1 locs ht hvm hw hB hz1 hk1 hS hce hcv hcl => ?_) (fun u t H1 locs ht hvm hw hB hz1 hk1 hS => ?_)
  · have hE := hB
    exact vx_out (fun x h => (hout x h).elim) hlocks hce hcv hcl (fun t2 ht2 hW2 => ⟨(), trivial, hE, hS.F ht2⟩) hS.2.2 (Nat.le_of_ble_eq_true rfl) (Nat.le_of_ble_eq_true rfl)
  exact hB.elim

def zs_c_X7_machine_no : List Cond := .code yX7_machine cX7_machine 2 (some .int) :: (([.code yX7_isWithin cX7_isWithin 3 (some .boolean), .methodLink RX7 49 yX7_isWithin, .static yX7_isWithin, .initialized RX7, .code yX7_require cX7_require 1 none, .classLink RX7 292 "java/lang/IllegalArgumentException", .initialized "java/lang/IllegalArgumentException", .methodLink RX7 53 yX7_require, .static yX7_require] : List Cond) ++ (vx_atS RX7 296 "java/lang/IllegalArgumentException" ["java/lang/RuntimeException", "java/lang/Exception"]).filter goodWord)
set_option maxHeartbeats 4000000 in
set_option maxRecDepth 100000 in
/-- machine, out of its range -/
theorem c_X7_machine_no (l : Launch) (hnt : l.stackTraces = false) (dC : Nat → ClassId) (dI : Nat → Nat → Nat) (a0 : Nat) (h0 : Nat) (qm : Nat) (qt : Nat) (qw : Nat) (qc : Nat) (qb : Nat) (qg : Nat) (p0 : Int32) (sz : Nat) (hp : zw p0 2 4 = 0) : vx_Met l yX7_machine zs_c_X7_machine_no ({ frames := 7, cells := 1, slots := 6, locals := 102 }) (va_Pc [.ref h0, .int p0] (fun U => U.heap.size = sz ∧ va_P (dC, dI) vwCl [(h0, .inr (9, [.ref qm, .ref qt, .ref qw, .ref qc, .ref qb, .ref qg, .int 0, .int 0, .int 0, .int 0, .int 0]))] U.heap ∧ va_K (dC, dI) vwCl [] U ∧ va_D (fun _ => True) [(h0, .inr (9, [.ref qm, .ref qt, .ref qw, .ref qc, .ref qb, .ref qg, .int 0, .int 0, .int 0, .int 0, .int 0]))] ∧ zB a0 (va_A [(h0, .inr (9, [.ref qm, .ref qt, .ref qw, .ref qc, .ref qb, .ref qg, .int 0, .int 0, .int 0, .int 0, .int 0]))] sz) U U.heap)) (va_Qi (fun (r : Int32) (_ : Unit) => True) (fun _ t => False) (va_A [(h0, .inr (9, [.ref qm, .ref qt, .ref qw, .ref qc, .ref qb, .ref qg, .int 0, .int 0, .int 0, .int 0, .int 0]))] sz)) (vx_X (fun _ : Unit => True) (fun E _ _ => E = "java/lang/IllegalArgumentException") (va_A [(h0, .inr (9, [.ref qm, .ref qt, .ref qw, .ref qc, .ref qb, .ref qg, .int 0, .int 0, .int 0, .int 0, .int 0]))] sz)) 1 6 (va_A [(h0, .inr (9, [.ref qm, .ref qt, .ref qw, .ref qc, .ref qb, .ref qg, .int 0, .int 0, .int 0, .int 0, .int 0]))] sz) := by
  refine vx_ofW (cc := cX7_machine) (maxL := 2) (ret := (some .int)) (by decide) rfl ?_
  intro p e s m args below meth c s₁ B hml hout hv
  obtain ⟨rfl, hsz, hP, hK, hD0, hZ⟩ := hv
  have hx := B.exec
  have hb := B.bytes
  have hr := B.returns
  have hts := atoms_spec (ws := zs_c_X7_machine_no) B.pre
  have hown : s.vm.findClass RX7 = some m.cls := findClass_of_methodNamed B.named
  have hlocks := B.notSynchronized
  subst hsz
  have hD := hD0.self (sz := s.heap.size)
  generalize hAe : va_A [(h0, .inr (9, [.ref qm, .ref qt, .ref qw, .ref qc, .ref qb, .ref qg, .int 0, .int 0, .int 0, .int 0, .int 0]))] s.heap.size = A at hD hZ ⊢
  have hA : ∀ q : Nat, s.heap.size ≤ q → A q := fun q h => by rw [← hAe]; exact Or.inr h
  have hS : va_S A s.heap s.heap [] := va_S.rf
  have hl := lv_entry ([.ref h0, .int p0]) (n := 2) (Nat.le_of_ble_eq_true rfl)
  rw [lg_entry_eq]
  generalize (lg_sl ([.ref h0, .int p0]) ++ List.replicate (2 - (lg_sl ([.ref h0, .int p0])).length) Slot.unset).toArray = ls at hl ⊢
  have hl : lv_has ls 2 [(0, .ref h0), (1, .int p0)] := hl
  refine lv_iload_n hx hb dX7_machine_0 rfl (lv_at hl 1 rfl) ?_
  refine lv_iconst (v := 2) hx hb dX7_machine_1 (by decide) ?_
  refine lv_iconst (v := 4) hx hb dX7_machine_2 (by decide) ?_
  have hPc := hP.sub (ws' := []) [] rfl
  have hDc := hD.sub (ws' := []) [] (by decide) rfl
  have hKc := hK.sub (tys' := []) [] rfl
  have hFc := va_free (wc := []) hD hS hA [] rfl
  have hZc := ((hZ.kept hS.2.1).narrow hFc)
  refine va_calli (va_runS (As := [.int p0, .int 2, .int 4]) (rest := []) ⟨hx, hb, hml, hown, hts⟩ (c_X7_isWithin l hnt dC dI a0 p0 2 4 s.heap.size ) (va_cwS 3 hts (goodIn_of _ (by decide +kernel)) rfl rfl rfl (by decide +kernel) ⟨Nat.le_of_ble_eq_true rfl, Nat.le_of_ble_eq_true rfl⟩) ⟨fun a U g mk q => by obtain ⟨q0, q1, qP, qK, qD, qZ⟩ := q; exact ⟨q0, q1, qP, va_K.moved (u := U) (U := U.calling g mk a) (Vm.Alike.refl U.vm) qK, qD, qZ.call⟩, fun U hU hW => ⟨rfl, by rw [hU], by rw [hU]; exact hPc, va_K.moved hW.alike hKc, hDc.weaken (fun _ _ _ _ => trivial), by rw [hU]; exact hZc.warm hW⟩⟩ rfl rfl hl.1 rfl (lv_room (Nat.le_of_ble_eq_true rfl)) dX7_machine_3 ⟨Nat.le_of_ble_eq_true rfl, Nat.le_of_ble_eq_true rfl⟩) hS (fun q _ h => hFc q h) hFc (fun r_1 u t H1 locs ht hvm hw hB hz1 hk1 hS => ?_)
  obtain ⟨hP1, hK1, hD1⟩ := hB
  rw [ht] at hP1
  have hK1 := va_K.moved hvm.symm hK1
  obtain ⟨hP, hD⟩ := va_join (wr := [(h0, .inr (9, [.ref qm, .ref qt, .ref qw, .ref qc, .ref qb, .ref qg, .int 0, .int 0, .int 0, .int 0, .int 0]))]) (w1 := []) hP hD [] [0] rfl rfl (by decide) (by decide) hk1 hFc hP1 hD1
  have hK := (hK.sub (tys' := []) [] rfl).app hK1
  generalize H1 = H at hP hS ⊢
  have hP : va_P (dC, dI) vwCl [(h0, .inr (9, [.ref qm, .ref qt, .ref qw, .ref qc, .ref qb, .ref qg, .int 0, .int 0, .int 0, .int 0, .int 0]))] H := hP
  have hD : va_D A [(h0, .inr (9, [.ref qm, .ref qt, .ref qw, .ref qc, .ref qb, .ref qg, .int 0, .int 0, .int 0, .int 0, .int 0]))] := hD
  have hK : va_K (dC, dI) vwCl [] s := hK
  refine W.widen (k := 0) (n := 0) (Nat.le_of_ble_eq_true rfl) (Nat.le_of_ble_eq_true rfl) ?_
  obtain rfl : r_1 = 0 := hw.trans (hp)
  have hPc := hP.sub (ws' := []) [] rfl
  have hDc := hD.sub (ws' := []) [] (by decide) rfl
  have hKc := hK.sub (tys' := []) [] rfl
  have hFc := va_free (wc := []) hD hS hA [] rfl
  have hZc := ((hZ.kept hS.2.1).narrow hFc)
  refine vx_callv (vx_runS (As := [.int 0]) (rest := []) ⟨hx, hb, hml, hown, hts⟩ (c_X7_require_no l hnt dC dI a0  H.size ) (va_cwS 1 hts (goodIn_of _ (by decide +kernel)) rfl rfl rfl (by decide +kernel) ⟨Nat.le_of_ble_eq_true rfl, Nat.le_of_ble_eq_true rfl⟩) ⟨fun a U g mk q => by obtain ⟨q0, q1, qP, qK, qD, qZ⟩ := q; exact ⟨q0, q1, qP, va_K.moved (u := U) (U := U.calling g mk a) (Vm.Alike.refl U.vm) qK, qD, qZ.call⟩, fun U hU hW => ⟨rfl, by rw [hU], by rw [hU]; exact hPc, va_K.moved hW.alike hKc, hDc.weaken (fun _ _ _ _ => trivial), by rw [hU]; exact hZc.warm hW⟩⟩ rfl rfl hl.1 rfl (lv_room (Nat.le_of_ble_eq_true rfl)) dX7_machine_6 ⟨Nat.le_of_ble_eq_true rfl, Nat.le_of_ble_eq_true rfl⟩) hS (fun q _ h => hFc q h) hFc (fun q _ h => hFc q h) (fun E ce q9 u t H1 locs ht hvm hw hB hz1 hk1 hS hce hcv hcl => ?_) (fun u t H1 locs ht hvm hw hB hz1 hk1 hS => ?_)
  · have hE := hB
    exact vx_out (fun x h => (hout x h).elim) hlocks hce hcv hcl (fun t2 ht2 hW2 => ⟨(), trivial, hE, hS.F ht2⟩) hS.2.2 (Nat.le_of_ble_eq_true rfl) (Nat.le_of_ble_eq_true rfl)
  exact hB.elim

def zs_c_X7_doubt_ok : List Cond := .code yX7_doubt cX7_doubt 5 (some .int) :: (([.code yX7_isWithin cX7_isWithin 3 (some .boolean), .methodLink RX7 49 yX7_isWithin, .static yX7_isWithin, .initialized RX7, .code yX7_require cX7_require 1 none, .methodLink RX7 53 yX7_require, .static yX7_require, .fieldLink RX7 148 "Haltingale" "machineCount" "I"] : List Cond) ++ wsX70)
set_option maxHeartbeats 4000000 in
set_option maxRecDepth 100000 in
/-- doubt of no machine -/
theorem c_X7_doubt_ok (l : Launch) (hnt : l.stackTraces = false) (dC : Nat → ClassId) (dI : Nat → Nat → Nat) (a0 : Nat) (h0 : Nat) (qm : Nat) (qt : Nat) (qw : Nat) (qc : Nat) (qb : Nat) (qg : Nat) (p0 : Int32) (sz : Nat) (hp : zw p0 0 3 = 1) : Met l yX7_doubt zs_c_X7_doubt_ok ({ frames := 1, cells := 0, slots := 0, locals := 22 }) (va_Pc [.ref h0, .int p0] (fun U => U.heap.size = sz ∧ va_P (dC, dI) vwCl [(h0, .inr (9, [.ref qm, .ref qt, .ref qw, .ref qc, .ref qb, .ref qg, .int 0, .int 0, .int 0, .int 0, .int 0]))] U.heap ∧ va_K (dC, dI) vwCl [] U ∧ va_D (fun _ => True) [(h0, .inr (9, [.ref qm, .ref qt, .ref qw, .ref qc, .ref qb, .ref qg, .int 0, .int 0, .int 0, .int 0, .int 0]))] ∧ zB a0 (va_A [(h0, .inr (9, [.ref qm, .ref qt, .ref qw, .ref qc, .ref qb, .ref qg, .int 0, .int 0, .int 0, .int 0, .int 0]))] sz) U U.heap)) (va_Qi (fun (r : Int32) (_ : Unit) => r = 0) (fun _ t => va_P (dC, dI) vwCl [] t.heap ∧ va_K (dC, dI) vwCl [] t ∧ va_D (va_A [(h0, .inr (9, [.ref qm, .ref qt, .ref qw, .ref qc, .ref qb, .ref qg, .int 0, .int 0, .int 0, .int 0, .int 0]))] sz) []) (va_A [(h0, .inr (9, [.ref qm, .ref qt, .ref qw, .ref qc, .ref qb, .ref qg, .int 0, .int 0, .int 0, .int 0, .int 0]))] sz)) 0 0 (va_A [(h0, .inr (9, [.ref qm, .ref qt, .ref qw, .ref qc, .ref qb, .ref qg, .int 0, .int 0, .int 0, .int 0, .int 0]))] sz) := by
  refine Met.ofW (cc := cX7_doubt) (maxL := 5) (ret := (some .int)) (by decide) rfl ?_
  intro p e s m args below meth c s₁ B hml hv
  obtain ⟨rfl, hsz, hP, hK, hD0, hZ⟩ := hv
  have hx := B.exec
  have hb := B.bytes
  have hr := B.returns
  have hts := atoms_spec (ws := zs_c_X7_doubt_ok) B.pre
  have hown : s.vm.findClass RX7 = some m.cls := findClass_of_methodNamed B.named
  have hlocks := B.notSynchronized
  have hiX7 : ∀ w ∈ wsX70, w ∈ zs_c_X7_doubt_ok := by decide +kernel
  subst hsz
  have hD := hD0.self (sz := s.heap.size)
  generalize hAe : va_A [(h0, .inr (9, [.ref qm, .ref qt, .ref qw, .ref qc, .ref qb, .ref qg, .int 0, .int 0, .int 0, .int 0, .int 0]))] s.heap.size = A at hD hZ ⊢
  have hA : ∀ q : Nat, s.heap.size ≤ q → A q := fun q h => by rw [← hAe]; exact Or.inr h
  have hS : va_S A s.heap s.heap [] := va_S.rf
  have hl := lv_entry ([.ref h0, .int p0]) (n := 5) (Nat.le_of_ble_eq_true rfl)
  rw [lg_entry_eq]
  generalize (lg_sl ([.ref h0, .int p0]) ++ List.replicate (5 - (lg_sl ([.ref h0, .int p0])).length) Slot.unset).toArray = ls at hl ⊢
  have hl : lv_has ls 5 [(0, .ref h0), (1, .int p0)] := hl
  refine lv_iload_n hx hb dX7_doubt_0 rfl (lv_at hl 1 rfl) ?_
  refine lv_iconst (v := 0) hx hb dX7_doubt_1 (by decide) ?_
  refine lv_iconst (v := 3) hx hb dX7_doubt_2 (by decide) ?_
  have hPc := hP.sub (ws' := []) [] rfl
  have hDc := hD.sub (ws' := []) [] (by decide) rfl
  have hKc := hK.sub (tys' := []) [] rfl
  have hFc := va_free (wc := []) hD hS hA [] rfl
  have hZc := ((hZ.kept hS.2.1).narrow hFc)
  refine va_calli (va_runS (As := [.int p0, .int 0, .int 3]) (rest := []) ⟨hx, hb, hml, hown, hts⟩ (c_X7_isWithin l hnt dC dI a0 p0 0 3 s.heap.size ) (va_cwS 3 hts (goodIn_of _ (by decide +kernel)) rfl rfl rfl (by decide +kernel) ⟨Nat.le_of_ble_eq_true rfl, Nat.le_of_ble_eq_true rfl⟩) ⟨fun a U g mk q => by obtain ⟨q0, q1, qP, qK, qD, qZ⟩ := q; exact ⟨q0, q1, qP, va_K.moved (u := U) (U := U.calling g mk a) (Vm.Alike.refl U.vm) qK, qD, qZ.call⟩, fun U hU hW => ⟨rfl, by rw [hU], by rw [hU]; exact hPc, va_K.moved hW.alike hKc, hDc.weaken (fun _ _ _ _ => trivial), by rw [hU]; exact hZc.warm hW⟩⟩ rfl rfl hl.1 rfl (lv_room (Nat.le_of_ble_eq_true rfl)) dX7_doubt_3 ⟨Nat.le_of_ble_eq_true rfl, Nat.le_of_ble_eq_true rfl⟩) hS (fun q _ h => hFc q h) hFc (fun r_1 u t H1 locs ht hvm hw hB hz1 hk1 hS => ?_)
  obtain ⟨hP1, hK1, hD1⟩ := hB
  rw [ht] at hP1
  have hK1 := va_K.moved hvm.symm hK1
  obtain ⟨hP, hD⟩ := va_join (wr := [(h0, .inr (9, [.ref qm, .ref qt, .ref qw, .ref qc, .ref qb, .ref qg, .int 0, .int 0, .int 0, .int 0, .int 0]))]) (w1 := []) hP hD [] [0] rfl rfl (by decide) (by decide) hk1 hFc hP1 hD1
  have hK := (hK.sub (tys' := []) [] rfl).app hK1
  generalize H1 = H at hP hS ⊢
  have hP : va_P (dC, dI) vwCl [(h0, .inr (9, [.ref qm, .ref qt, .ref qw, .ref qc, .ref qb, .ref qg, .int 0, .int 0, .int 0, .int 0, .int 0]))] H := hP
  have hD : va_D A [(h0, .inr (9, [.ref qm, .ref qt, .ref qw, .ref qc, .ref qb, .ref qg, .int 0, .int 0, .int 0, .int 0, .int 0]))] := hD
  have hK : va_K (dC, dI) vwCl [] s := hK
  refine W.widen (k := 0) (n := 0) (Nat.le_of_ble_eq_true rfl) (Nat.le_of_ble_eq_true rfl) ?_
  obtain rfl : r_1 = 1 := hw.trans (hp)
  have hPc := hP.sub (ws' := []) [] rfl
  have hDc := hD.sub (ws' := []) [] (by decide) rfl
  have hKc := hK.sub (tys' := []) [] rfl
  have hFc := va_free (wc := []) hD hS hA [] rfl
  have hZc := ((hZ.kept hS.2.1).narrow hFc)
  refine va_callv (va_runS (As := [.int 1]) (rest := []) ⟨hx, hb, hml, hown, hts⟩ (c_X7_require_ok l hnt dC dI a0  H.size ) (va_cwS 1 hts (goodIn_of _ (by decide +kernel)) rfl rfl rfl (by decide +kernel) ⟨Nat.le_of_ble_eq_true rfl, Nat.le_of_ble_eq_true rfl⟩) ⟨fun a U g mk q => by obtain ⟨q0, q1, qP, qK, qD, qZ⟩ := q; exact ⟨q0, q1, qP, va_K.moved (u := U) (U := U.calling g mk a) (Vm.Alike.refl U.vm) qK, qD, qZ.call⟩, fun U hU hW => ⟨rfl, by rw [hU], by rw [hU]; exact hPc, va_K.moved hW.alike hKc, hDc.weaken (fun _ _ _ _ => trivial), by rw [hU]; exact hZc.warm hW⟩⟩ rfl rfl hl.1 rfl (lv_room (Nat.le_of_ble_eq_true rfl)) dX7_doubt_6 ⟨Nat.le_of_ble_eq_true rfl, Nat.le_of_ble_eq_true rfl⟩) hS (fun q _ h => hFc q h) hFc (fun u t H1 locs ht hvm hw hB hz1 hk1 hS => ?_)
  obtain ⟨hP1, hK1, hD1⟩ := hB
  rw [ht] at hP1
  have hK1 := va_K.moved hvm.symm hK1
  obtain ⟨hP, hD⟩ := va_join (wr := [(h0, .inr (9, [.ref qm, .ref qt, .ref qw, .ref qc, .ref qb, .ref qg, .int 0, .int 0, .int 0, .int 0, .int 0]))]) (w1 := []) hP hD [] [0] rfl rfl (by decide) (by decide) hk1 hFc hP1 hD1
  have hK := (hK.sub (tys' := []) [] rfl).app hK1
  generalize H1 = H at hP hS ⊢
  have hP : va_P (dC, dI) vwCl [(h0, .inr (9, [.ref qm, .ref qt, .ref qw, .ref qc, .ref qb, .ref qg, .int 0, .int 0, .int 0, .int 0, .int 0]))] H := hP
  have hD : va_D A [(h0, .inr (9, [.ref qm, .ref qt, .ref qw, .ref qc, .ref qb, .ref qg, .int 0, .int 0, .int 0, .int 0, .int 0]))] := hD
  have hK : va_K (dC, dI) vwCl [] s := hK
  refine W.widen (k := 0) (n := 0) (Nat.le_of_ble_eq_true rfl) (Nat.le_of_ble_eq_true rfl) ?_
  refine lv_iconst (v := 0) hx hb dX7_doubt_9 (by decide) ?_
  refine lv_istore_n (lv' := [(2, .int 0), (0, .ref h0), (1, .int p0)]) hx hb dX7_doubt_10 rfl hl (by decide) rfl (fun ls hl => ?_)
  refine lv_iconst (v := 0) hx hb dX7_doubt_11 (by decide) ?_
  refine lv_istore_n (lv' := [(3, .int 0), (2, .int 0), (0, .ref h0), (1, .int p0)]) hx hb dX7_doubt_12 rfl hl (by decide) rfl (fun ls hl => ?_)
  refine lv_iload_n hx hb dX7_doubt_13 rfl (lv_at hl 0 rfl) ?_
  refine lv_aload_n hx hb dX7_doubt_14 rfl (lv_at hl 2 rfl) ?_
  refine va_get (D := (dC, dI)) (ci := 9) (v := .int 0) (C := RX7) (T := TX7) (N := 11) hx hb hts hiX7 hown hK hP 0 rfl rfl 6 (by decide) (hts (.fieldLink RX7 148 "Haltingale" "machineCount" "I") (by decide +kernel)) (fun _ h9 => h9) rfl dX7_doubt_15 ?_
  refine lv_icmp_ge (tgt := 53) hx hb dX7_doubt_18 (by decide) (fun c_3 => ?_) (fun c_3 => ?_)
  rotate_left
  · (first | exact absurd c_3 (by decide) | exact absurd (by decide) c_3)
  refine lv_iload_n hx hb dX7_doubt_53 rfl (lv_at hl 1 rfl) ?_
  have hP9 := hP.sub (ws' := []) [] rfl
  have hD9 := hD.sub (ws' := []) [] (by decide) rfl
  have hK9 := hK.sub (tys' := []) [] rfl
  refine W.widen (k := 0) (n := 0) (Nat.le_of_ble_eq_true rfl) (Nat.le_of_ble_eq_true rfl) ?_
  exact W.iret (v := 0) hx hb hr (fun t ht hW => ⟨⟨0, (), rfl, rfl, ⟨by rw [ht]; exact hP9, va_K.moved hW.alike hK9, hD9⟩⟩, hS.F ht⟩) hS.2.2 dX7_doubt_54

def zs_c_X7_champion_ok : List Cond := .code yX7_champion cX7_champion 7 (some .int) :: (([.code yX7_isWithin cX7_isWithin 3 (some .boolean), .methodLink RX7 49 yX7_isWithin, .static yX7_isWithin, .initialized RX7, .code yX7_require cX7_require 1 none, .methodLink RX7 53 yX7_require, .static yX7_require, .fieldLink RX7 148 "Haltingale" "machineCount" "I"] : List Cond) ++ wsX70)
set_option maxHeartbeats 4000000 in
set_option maxRecDepth 100000 in
/-- no champion -/
theorem c_X7_champion_ok (l : Launch) (hnt : l.stackTraces = false) (dC : Nat → ClassId) (dI : Nat → Nat → Nat) (a0 : Nat) (h0 : Nat) (qm : Nat) (qt : Nat) (qw : Nat) (qc : Nat) (qb : Nat) (qg : Nat) (p0 : Int32) (sz : Nat) (hp : zw p0 0 1 = 1) : Met l yX7_champion zs_c_X7_champion_ok ({ frames := 1, cells := 0, slots := 0, locals := 22 }) (va_Pc [.ref h0, .int p0] (fun U => U.heap.size = sz ∧ va_P (dC, dI) vwCl [(h0, .inr (9, [.ref qm, .ref qt, .ref qw, .ref qc, .ref qb, .ref qg, .int 0, .int 0, .int 0, .int 0, .int 0]))] U.heap ∧ va_K (dC, dI) vwCl [] U ∧ va_D (fun _ => True) [(h0, .inr (9, [.ref qm, .ref qt, .ref qw, .ref qc, .ref qb, .ref qg, .int 0, .int 0, .int 0, .int 0, .int 0]))] ∧ zB a0 (va_A [(h0, .inr (9, [.ref qm, .ref qt, .ref qw, .ref qc, .ref qb, .ref qg, .int 0, .int 0, .int 0, .int 0, .int 0]))] sz) U U.heap)) (va_Qi (fun (r : Int32) (_ : Unit) => r = (-1)) (fun _ t => va_P (dC, dI) vwCl [(h0, .inr (9, [.ref qm, .ref qt, .ref qw, .ref qc, .ref qb, .ref qg, .int 0, .int 0, .int 0, .int 0, .int 0]))] t.heap ∧ va_K (dC, dI) vwCl [] t ∧ va_D (va_A [(h0, .inr (9, [.ref qm, .ref qt, .ref qw, .ref qc, .ref qb, .ref qg, .int 0, .int 0, .int 0, .int 0, .int 0]))] sz) [(h0, .inr (9, [.ref qm, .ref qt, .ref qw, .ref qc, .ref qb, .ref qg, .int 0, .int 0, .int 0, .int 0, .int 0]))]) (va_A [(h0, .inr (9, [.ref qm, .ref qt, .ref qw, .ref qc, .ref qb, .ref qg, .int 0, .int 0, .int 0, .int 0, .int 0]))] sz)) 0 0 (va_A [(h0, .inr (9, [.ref qm, .ref qt, .ref qw, .ref qc, .ref qb, .ref qg, .int 0, .int 0, .int 0, .int 0, .int 0]))] sz) := by
  refine Met.ofW (cc := cX7_champion) (maxL := 7) (ret := (some .int)) (by decide) rfl ?_
  intro p e s m args below meth c s₁ B hml hv
  obtain ⟨rfl, hsz, hP, hK, hD0, hZ⟩ := hv
  have hx := B.exec
  have hb := B.bytes
  have hr := B.returns
  have hts := atoms_spec (ws := zs_c_X7_champion_ok) B.pre
  have hown : s.vm.findClass RX7 = some m.cls := findClass_of_methodNamed B.named
  have hlocks := B.notSynchronized
  have hiX7 : ∀ w ∈ wsX70, w ∈ zs_c_X7_champion_ok := by decide +kernel
  subst hsz
  have hD := hD0.self (sz := s.heap.size)
  generalize hAe : va_A [(h0, .inr (9, [.ref qm, .ref qt, .ref qw, .ref qc, .ref qb, .ref qg, .int 0, .int 0, .int 0, .int 0, .int 0]))] s.heap.size = A at hD hZ ⊢
  have hA : ∀ q : Nat, s.heap.size ≤ q → A q := fun q h => by rw [← hAe]; exact Or.inr h
  have hS : va_S A s.heap s.heap [] := va_S.rf
  have hl := lv_entry ([.ref h0, .int p0]) (n := 7) (Nat.le_of_ble_eq_true rfl)
  rw [lg_entry_eq]
  generalize (lg_sl ([.ref h0, .int p0]) ++ List.replicate (7 - (lg_sl ([.ref h0, .int p0])).length) Slot.unset).toArray = ls at hl ⊢
  have hl : lv_has ls 7 [(0, .ref h0), (1, .int p0)] := hl
  refine lv_iload_n hx hb dX7_champion_0 rfl (lv_at hl 1 rfl) ?_
  refine lv_iconst (v := 0) hx hb dX7_champion_1 (by decide) ?_
  refine lv_iconst (v := 1) hx hb dX7_champion_2 (by decide) ?_
  have hPc := hP.sub (ws' := []) [] rfl
  have hDc := hD.sub (ws' := []) [] (by decide) rfl
  have hKc := hK.sub (tys' := []) [] rfl
  have hFc := va_free (wc := []) hD hS hA [] rfl
  have hZc := ((hZ.kept hS.2.1).narrow hFc)
  refine va_calli (va_runS (As := [.int p0, .int 0, .int 1]) (rest := []) ⟨hx, hb, hml, hown, hts⟩ (c_X7_isWithin l hnt dC dI a0 p0 0 1 s.heap.size ) (va_cwS 3 hts (goodIn_of _ (by decide +kernel)) rfl rfl rfl (by decide +kernel) ⟨Nat.le_of_ble_eq_true rfl, Nat.le_of_ble_eq_true rfl⟩) ⟨fun a U g mk q => by obtain ⟨q0, q1, qP, qK, qD, qZ⟩ := q; exact ⟨q0, q1, qP, va_K.moved (u := U) (U := U.calling g mk a) (Vm.Alike.refl U.vm) qK, qD, qZ.call⟩, fun U hU hW => ⟨rfl, by rw [hU], by rw [hU]; exact hPc, va_K.moved hW.alike hKc, hDc.weaken (fun _ _ _ _ => trivial), by rw [hU]; exact hZc.warm hW⟩⟩ rfl rfl hl.1 rfl (lv_room (Nat.le_of_ble_eq_true rfl)) dX7_champion_3 ⟨Nat.le_of_ble_eq_true rfl, Nat.le_of_ble_eq_true rfl⟩) hS (fun q _ h => hFc q h) hFc (fun r_1 u t H1 locs ht hvm hw hB hz1 hk1 hS => ?_)
  obtain ⟨hP1, hK1, hD1⟩ := hB
  rw [ht] at hP1
  have hK1 := va_K.moved hvm.symm hK1
  obtain ⟨hP, hD⟩ := va_join (wr := [(h0, .inr (9, [.ref qm, .ref qt, .ref qw, .ref qc, .ref qb, .ref qg, .int 0, .int 0, .int 0, .int 0, .int 0]))]) (w1 := []) hP hD [] [0] rfl rfl (by decide) (by decide) hk1 hFc hP1 hD1
  have hK := (hK.sub (tys' := []) [] rfl).app hK1
  generalize H1 = H at hP hS ⊢
  have hP : va_P (dC, dI) vwCl [(h0, .inr (9, [.ref qm, .ref qt, .ref qw, .ref qc, .ref qb, .ref qg, .int 0, .int 0, .int 0, .int 0, .int 0]))] H := hP
  have hD : va_D A [(h0, .inr (9, [.ref qm, .ref qt, .ref qw, .ref qc, .ref qb, .ref qg, .int 0, .int 0, .int 0, .int 0, .int 0]))] := hD
  have hK : va_K (dC, dI) vwCl [] s := hK
  refine W.widen (k := 0) (n := 0) (Nat.le_of_ble_eq_true rfl) (Nat.le_of_ble_eq_true rfl) ?_
  obtain rfl : r_1 = 1 := hw.trans (hp)
  have hPc := hP.sub (ws' := []) [] rfl
  have hDc := hD.sub (ws' := []) [] (by decide) rfl
  have hKc := hK.sub (tys' := []) [] rfl
  have hFc := va_free (wc := []) hD hS hA [] rfl
  have hZc := ((hZ.kept hS.2.1).narrow hFc)
  refine va_callv (va_runS (As := [.int 1]) (rest := []) ⟨hx, hb, hml, hown, hts⟩ (c_X7_require_ok l hnt dC dI a0  H.size ) (va_cwS 1 hts (goodIn_of _ (by decide +kernel)) rfl rfl rfl (by decide +kernel) ⟨Nat.le_of_ble_eq_true rfl, Nat.le_of_ble_eq_true rfl⟩) ⟨fun a U g mk q => by obtain ⟨q0, q1, qP, qK, qD, qZ⟩ := q; exact ⟨q0, q1, qP, va_K.moved (u := U) (U := U.calling g mk a) (Vm.Alike.refl U.vm) qK, qD, qZ.call⟩, fun U hU hW => ⟨rfl, by rw [hU], by rw [hU]; exact hPc, va_K.moved hW.alike hKc, hDc.weaken (fun _ _ _ _ => trivial), by rw [hU]; exact hZc.warm hW⟩⟩ rfl rfl hl.1 rfl (lv_room (Nat.le_of_ble_eq_true rfl)) dX7_champion_6 ⟨Nat.le_of_ble_eq_true rfl, Nat.le_of_ble_eq_true rfl⟩) hS (fun q _ h => hFc q h) hFc (fun u t H1 locs ht hvm hw hB hz1 hk1 hS => ?_)
  obtain ⟨hP1, hK1, hD1⟩ := hB
  rw [ht] at hP1
  have hK1 := va_K.moved hvm.symm hK1
  obtain ⟨hP, hD⟩ := va_join (wr := [(h0, .inr (9, [.ref qm, .ref qt, .ref qw, .ref qc, .ref qb, .ref qg, .int 0, .int 0, .int 0, .int 0, .int 0]))]) (w1 := []) hP hD [] [0] rfl rfl (by decide) (by decide) hk1 hFc hP1 hD1
  have hK := (hK.sub (tys' := []) [] rfl).app hK1
  generalize H1 = H at hP hS ⊢
  have hP : va_P (dC, dI) vwCl [(h0, .inr (9, [.ref qm, .ref qt, .ref qw, .ref qc, .ref qb, .ref qg, .int 0, .int 0, .int 0, .int 0, .int 0]))] H := hP
  have hD : va_D A [(h0, .inr (9, [.ref qm, .ref qt, .ref qw, .ref qc, .ref qb, .ref qg, .int 0, .int 0, .int 0, .int 0, .int 0]))] := hD
  have hK : va_K (dC, dI) vwCl [] s := hK
  refine W.widen (k := 0) (n := 0) (Nat.le_of_ble_eq_true rfl) (Nat.le_of_ble_eq_true rfl) ?_
  refine lv_iconst (v := (-1)) hx hb dX7_champion_9 (by decide) ?_
  refine lv_istore_n (lv' := [(2, .int (-1)), (0, .ref h0), (1, .int p0)]) hx hb dX7_champion_10 rfl hl (by decide) rfl (fun ls hl => ?_)
  refine lv_iconst (v := (-1)) hx hb dX7_champion_11 (by decide) ?_
  refine lv_istore_n (lv' := [(3, .int (-1)), (2, .int (-1)), (0, .ref h0), (1, .int p0)]) hx hb dX7_champion_12 rfl hl (by decide) rfl (fun ls hl => ?_)
  refine lv_iconst (v := 0) hx hb dX7_champion_13 (by decide) ?_
  refine lv_istore (lv' := [(4, .int 0), (3, .int (-1)), (2, .int (-1)), (0, .ref h0), (1, .int p0)]) hx hb dX7_champion_14 hl (by decide) rfl (fun ls hl => ?_)
  refine lv_iload hx hb dX7_champion_16 (lv_at hl 0 rfl) ?_
  refine lv_aload_n hx hb dX7_champion_18 rfl (lv_at hl 3 rfl) ?_
  refine va_get (D := (dC, dI)) (ci := 9) (v := .int 0) (C := RX7) (T := TX7) (N := 11) hx hb hts hiX7 hown hK hP 0 rfl rfl 6 (by decide) (hts (.fieldLink RX7 148 "Haltingale" "machineCount" "I") (by decide +kernel)) (fun _ h9 => h9) rfl dX7_champion_19 ?_
  refine lv_icmp_ge (tgt := 78) hx hb dX7_champion_22 (by decide) (fun c_3 => ?_) (fun c_3 => ?_)
  rotate_left
  · (first | exact absurd c_3 (by decide) | exact absurd (by decide) c_3)
  refine lv_iload_n hx hb dX7_champion_78 rfl (lv_at hl 2 rfl) ?_
  have hP9 := hP.sub (ws' := [(h0, .inr (9, [.ref qm, .ref qt, .ref qw, .ref qc, .ref qb, .ref qg, .int 0, .int 0, .int 0, .int 0, .int 0]))]) [0] rfl
  have hD9 := hD.sub (ws' := [(h0, .inr (9, [.ref qm, .ref qt, .ref qw, .ref qc, .ref qb, .ref qg, .int 0, .int 0, .int 0, .int 0, .int 0]))]) [0] (by decide) rfl
  have hK9 := hK.sub (tys' := []) [] rfl
  refine W.widen (k := 0) (n := 0) (Nat.le_of_ble_eq_true rfl) (Nat.le_of_ble_eq_true rfl) ?_
  exact W.iret (v := (-1)) hx hb hr (fun t ht hW => ⟨⟨(-1), (), rfl, rfl, ⟨by rw [ht]; exact hP9, va_K.moved hW.alike hK9, hD9⟩⟩, hS.F ht⟩) hS.2.2 dX7_champion_79

def zs_c_X7_many_0 : List Cond := .code yX7_many cX7_many 2 (some .int) :: (([.code yX7_isWithin cX7_isWithin 3 (some .boolean), .methodLink RX7 49 yX7_isWithin, .static yX7_isWithin, .initialized RX7, .code yX7_require cX7_require 1 none, .methodLink RX7 53 yX7_require, .static yX7_require, .fieldLink RX7 148 "Haltingale" "machineCount" "I"] : List Cond) ++ wsX70)
set_option maxHeartbeats 4000000 in
set_option maxRecDepth 100000 in
/-- many of 0 -/
theorem c_X7_many_0 (l : Launch) (hnt : l.stackTraces = false) (dC : Nat → ClassId) (dI : Nat → Nat → Nat) (a0 : Nat) (h0 : Nat) (qm : Nat) (qt : Nat) (qw : Nat) (qc : Nat) (qb : Nat) (qg : Nat) (sz : Nat)  : Met l yX7_many zs_c_X7_many_0 ({ frames := 1, cells := 0, slots := 0, locals := 22 }) (va_Pc [.ref h0, .int 0] (fun U => U.heap.size = sz ∧ va_P (dC, dI) vwCl [(h0, .inr (9, [.ref qm, .ref qt, .ref qw, .ref qc, .ref qb, .ref qg, .int 0, .int 0, .int 0, .int 0, .int 0]))] U.heap ∧ va_K (dC, dI) vwCl [] U ∧ va_D (fun _ => True) [(h0, .inr (9, [.ref qm, .ref qt, .ref qw, .ref qc, .ref qb, .ref qg, .int 0, .int 0, .int 0, .int 0, .int 0]))] ∧ zB a0 (va_A [(h0, .inr (9, [.ref qm, .ref qt, .ref qw, .ref qc, .ref qb, .ref qg, .int 0, .int 0, .int 0, .int 0, .int 0]))] sz) U U.heap)) (va_Qi (fun (r : Int32) (_ : Unit) => r = 0) (fun _ t => va_P (dC, dI) vwCl [(h0, .inr (9, [.ref qm, .ref qt, .ref qw, .ref qc, .ref qb, .ref qg, .int 0, .int 0, .int 0, .int 0, .int 0]))] t.heap ∧ va_K (dC, dI) vwCl [] t ∧ va_D (va_A [(h0, .inr (9, [.ref qm, .ref qt, .ref qw, .ref qc, .ref qb, .ref qg, .int 0, .int 0, .int 0, .int 0, .int 0]))] sz) [(h0, .inr (9, [.ref qm, .ref qt, .ref qw, .ref qc, .ref qb, .ref qg, .int 0, .int 0, .int 0, .int 0, .int 0]))]) (va_A [(h0, .inr (9, [.ref qm, .ref qt, .ref qw, .ref qc, .ref qb, .ref qg, .int 0, .int 0, .int 0, .int 0, .int 0]))] sz)) 0 0 (va_A [(h0, .inr (9, [.ref qm, .ref qt, .ref qw, .ref qc, .ref qb, .ref qg, .int 0, .int 0, .int 0, .int 0, .int 0]))] sz) := by
  refine Met.ofW (cc := cX7_many) (maxL := 2) (ret := (some .int)) (by decide) rfl ?_
  intro p e s m args below meth c s₁ B hml hv
  obtain ⟨rfl, hsz, hP, hK, hD0, hZ⟩ := hv
  have hx := B.exec
  have hb := B.bytes
  have hr := B.returns
  have hts := atoms_spec (ws := zs_c_X7_many_0) B.pre
  have hown : s.vm.findClass RX7 = some m.cls := findClass_of_methodNamed B.named
  have hlocks := B.notSynchronized
  have hiX7 : ∀ w ∈ wsX70, w ∈ zs_c_X7_many_0 := by decide +kernel
  subst hsz
  have hD := hD0.self (sz := s.heap.size)
  generalize hAe : va_A [(h0, .inr (9, [.ref qm, .ref qt, .ref qw, .ref qc, .ref qb, .ref qg, .int 0, .int 0, .int 0, .int 0, .int 0]))] s.heap.size = A at hD hZ ⊢
  have hA : ∀ q : Nat, s.heap.size ≤ q → A q := fun q h => by rw [← hAe]; exact Or.inr h
  have hS : va_S A s.heap s.heap [] := va_S.rf
  have hl := lv_entry ([.ref h0, .int 0]) (n := 2) (Nat.le_of_ble_eq_true rfl)
  rw [lg_entry_eq]
  generalize (lg_sl ([.ref h0, .int 0]) ++ List.replicate (2 - (lg_sl ([.ref h0, .int 0])).length) Slot.unset).toArray = ls at hl ⊢
  have hl : lv_has ls 2 [(0, .ref h0), (1, .int 0)] := hl
  refine lv_iload_n hx hb dX7_many_0 rfl (lv_at hl 1 rfl) ?_
  refine lv_iconst (v := 0) hx hb dX7_many_1 (by decide) ?_
  refine lv_bipush (v := 10) hx hb dX7_many_2 (by decide) ?_
  have hPc := hP.sub (ws' := []) [] rfl
  have hDc := hD.sub (ws' := []) [] (by decide) rfl
  have hKc := hK.sub (tys' := []) [] rfl
  have hFc := va_free (wc := []) hD hS hA [] rfl
  have hZc := ((hZ.kept hS.2.1).narrow hFc)
  refine va_calli (va_runS (As := [.int 0, .int 0, .int 10]) (rest := []) ⟨hx, hb, hml, hown, hts⟩ (c_X7_isWithin l hnt dC dI a0 0 0 10 s.heap.size ) (va_cwS 3 hts (goodIn_of _ (by decide +kernel)) rfl rfl rfl (by decide +kernel) ⟨Nat.le_of_ble_eq_true rfl, Nat.le_of_ble_eq_true rfl⟩) ⟨fun a U g mk q => by obtain ⟨q0, q1, qP, qK, qD, qZ⟩ := q; exact ⟨q0, q1, qP, va_K.moved (u := U) (U := U.calling g mk a) (Vm.Alike.refl U.vm) qK, qD, qZ.call⟩, fun U hU hW => ⟨rfl, by rw [hU], by rw [hU]; exact hPc, va_K.moved hW.alike hKc, hDc.weaken (fun _ _ _ _ => trivial), by rw [hU]; exact hZc.warm hW⟩⟩ rfl rfl hl.1 rfl (lv_room (Nat.le_of_ble_eq_true rfl)) dX7_many_4 ⟨Nat.le_of_ble_eq_true rfl, Nat.le_of_ble_eq_true rfl⟩) hS (fun q _ h => hFc q h) hFc (fun r_1 u t H1 locs ht hvm hw hB hz1 hk1 hS => ?_)
  obtain ⟨hP1, hK1, hD1⟩ := hB
  rw [ht] at hP1
  have hK1 := va_K.moved hvm.symm hK1
  obtain ⟨hP, hD⟩ := va_join (wr := [(h0, .inr (9, [.ref qm, .ref qt, .ref qw, .ref qc, .ref qb, .ref qg, .int 0, .int 0, .int 0, .int 0, .int 0]))]) (w1 := []) hP hD [] [0] rfl rfl (by decide) (by decide) hk1 hFc hP1 hD1
  have hK := (hK.sub (tys' := []) [] rfl).app hK1
  generalize H1 = H at hP hS ⊢
  have hP : va_P (dC, dI) vwCl [(h0, .inr (9, [.ref qm, .ref qt, .ref qw, .ref qc, .ref qb, .ref qg, .int 0, .int 0, .int 0, .int 0, .int 0]))] H := hP
  have hD : va_D A [(h0, .inr (9, [.ref qm, .ref qt, .ref qw, .ref qc, .ref qb, .ref qg, .int 0, .int 0, .int 0, .int 0, .int 0]))] := hD
  have hK : va_K (dC, dI) vwCl [] s := hK
  refine W.widen (k := 0) (n := 0) (Nat.le_of_ble_eq_true rfl) (Nat.le_of_ble_eq_true rfl) ?_
  obtain rfl : r_1 = 1 := hw.trans (by decide)
  have hPc := hP.sub (ws' := []) [] rfl
  have hDc := hD.sub (ws' := []) [] (by decide) rfl
  have hKc := hK.sub (tys' := []) [] rfl
  have hFc := va_free (wc := []) hD hS hA [] rfl
  have hZc := ((hZ.kept hS.2.1).narrow hFc)
  refine va_callv (va_runS (As := [.int 1]) (rest := []) ⟨hx, hb, hml, hown, hts⟩ (c_X7_require_ok l hnt dC dI a0  H.size ) (va_cwS 1 hts (goodIn_of _ (by decide +kernel)) rfl rfl rfl (by decide +kernel) ⟨Nat.le_of_ble_eq_true rfl, Nat.le_of_ble_eq_true rfl⟩) ⟨fun a U g mk q => by obtain ⟨q0, q1, qP, qK, qD, qZ⟩ := q; exact ⟨q0, q1, qP, va_K.moved (u := U) (U := U.calling g mk a) (Vm.Alike.refl U.vm) qK, qD, qZ.call⟩, fun U hU hW => ⟨rfl, by rw [hU], by rw [hU]; exact hPc, va_K.moved hW.alike hKc, hDc.weaken (fun _ _ _ _ => trivial), by rw [hU]; exact hZc.warm hW⟩⟩ rfl rfl hl.1 rfl (lv_room (Nat.le_of_ble_eq_true rfl)) dX7_many_7 ⟨Nat.le_of_ble_eq_true rfl, Nat.le_of_ble_eq_true rfl⟩) hS (fun q _ h => hFc q h) hFc (fun u t H1 locs ht hvm hw hB hz1 hk1 hS => ?_)
  obtain ⟨hP1, hK1, hD1⟩ := hB
  rw [ht] at hP1
  have hK1 := va_K.moved hvm.symm hK1
  obtain ⟨hP, hD⟩ := va_join (wr := [(h0, .inr (9, [.ref qm, .ref qt, .ref qw, .ref qc, .ref qb, .ref qg, .int 0, .int 0, .int 0, .int 0, .int 0]))]) (w1 := []) hP hD [] [0] rfl rfl (by decide) (by decide) hk1 hFc hP1 hD1
  have hK := (hK.sub (tys' := []) [] rfl).app hK1
  generalize H1 = H at hP hS ⊢
  have hP : va_P (dC, dI) vwCl [(h0, .inr (9, [.ref qm, .ref qt, .ref qw, .ref qc, .ref qb, .ref qg, .int 0, .int 0, .int 0, .int 0, .int 0]))] H := hP
  have hD : va_D A [(h0, .inr (9, [.ref qm, .ref qt, .ref qw, .ref qc, .ref qb, .ref qg, .int 0, .int 0, .int 0, .int 0, .int 0]))] := hD
  have hK : va_K (dC, dI) vwCl [] s := hK
  refine W.widen (k := 0) (n := 0) (Nat.le_of_ble_eq_true rfl) (Nat.le_of_ble_eq_true rfl) ?_
  refine lv_iload_n hx hb dX7_many_10 rfl (lv_at hl 1 rfl) ?_
  refine lv_tableIn (tgt := 68) hx hb dX7_many_11 (by decide) (by decide) rfl (by decide) ?_
  refine lv_aload_n hx hb dX7_many_68 rfl (lv_at hl 0 rfl) ?_
  refine va_get (D := (dC, dI)) (ci := 9) (v := .int 0) (C := RX7) (T := TX7) (N := 11) hx hb hts hiX7 hown hK hP 0 rfl rfl 6 (by decide) (hts (.fieldLink RX7 148 "Haltingale" "machineCount" "I") (by decide +kernel)) (fun _ h9 => h9) rfl dX7_many_69 ?_
  have hP9 := hP.sub (ws' := [(h0, .inr (9, [.ref qm, .ref qt, .ref qw, .ref qc, .ref qb, .ref qg, .int 0, .int 0, .int 0, .int 0, .int 0]))]) [0] rfl
  have hD9 := hD.sub (ws' := [(h0, .inr (9, [.ref qm, .ref qt, .ref qw, .ref qc, .ref qb, .ref qg, .int 0, .int 0, .int 0, .int 0, .int 0]))]) [0] (by decide) rfl
  have hK9 := hK.sub (tys' := []) [] rfl
  refine W.widen (k := 0) (n := 0) (Nat.le_of_ble_eq_true rfl) (Nat.le_of_ble_eq_true rfl) ?_
  exact W.iret (v := 0) hx hb hr (fun t ht hW => ⟨⟨0, (), rfl, rfl, ⟨by rw [ht]; exact hP9, va_K.moved hW.alike hK9, hD9⟩⟩, hS.F ht⟩) hS.2.2 dX7_many_72

def zs_c_X7_many_1 : List Cond := .code yX7_many cX7_many 2 (some .int) :: (([.code yX7_isWithin cX7_isWithin 3 (some .boolean), .methodLink RX7 49 yX7_isWithin, .static yX7_isWithin, .initialized RX7, .code yX7_require cX7_require 1 none, .methodLink RX7 53 yX7_require, .static yX7_require, .code yX7_countOfKind cX7_countOfKind 4 (some .int), .fieldLink RX7 148 "Haltingale" "machineCount" "I", .methodLink RX7 252 yX7_countOfKind, .instanceMethod yX7_countOfKind, .selects RX7 yX7_countOfKind yX7_countOfKind] : List Cond) ++ wsX70)
set_option maxHeartbeats 4000000 in
set_option maxRecDepth 100000 in
/-- many of 1 -/
theorem c_X7_many_1 (l : Launch) (hnt : l.stackTraces = false) (dC : Nat → ClassId) (dI : Nat → Nat → Nat) (a0 : Nat) (h0 : Nat) (qm : Nat) (qt : Nat) (qw : Nat) (qc : Nat) (qb : Nat) (qg : Nat) (sz : Nat)  : Met l yX7_many zs_c_X7_many_1 ({ frames := 1, cells := 0, slots := 0, locals := 23 }) (va_Pc [.ref h0, .int 1] (fun U => U.heap.size = sz ∧ va_P (dC, dI) vwCl [(h0, .inr (9, [.ref qm, .ref qt, .ref qw, .ref qc, .ref qb, .ref qg, .int 0, .int 0, .int 0, .int 0, .int 0]))] U.heap ∧ va_K (dC, dI) vwCl [] U ∧ va_D (fun _ => True) [(h0, .inr (9, [.ref qm, .ref qt, .ref qw, .ref qc, .ref qb, .ref qg, .int 0, .int 0, .int 0, .int 0, .int 0]))] ∧ zB a0 (va_A [(h0, .inr (9, [.ref qm, .ref qt, .ref qw, .ref qc, .ref qb, .ref qg, .int 0, .int 0, .int 0, .int 0, .int 0]))] sz) U U.heap)) (va_Qi (fun (r : Int32) (_ : Unit) => r = 0) (fun _ t => va_P (dC, dI) vwCl [(h0, .inr (9, [.ref qm, .ref qt, .ref qw, .ref qc, .ref qb, .ref qg, .int 0, .int 0, .int 0, .int 0, .int 0]))] t.heap ∧ va_K (dC, dI) vwCl [] t ∧ va_D (va_A [(h0, .inr (9, [.ref qm, .ref qt, .ref qw, .ref qc, .ref qb, .ref qg, .int 0, .int 0, .int 0, .int 0, .int 0]))] sz) [(h0, .inr (9, [.ref qm, .ref qt, .ref qw, .ref qc, .ref qb, .ref qg, .int 0, .int 0, .int 0, .int 0, .int 0]))]) (va_A [(h0, .inr (9, [.ref qm, .ref qt, .ref qw, .ref qc, .ref qb, .ref qg, .int 0, .int 0, .int 0, .int 0, .int 0]))] sz)) 0 0 (va_A [(h0, .inr (9, [.ref qm, .ref qt, .ref qw, .ref qc, .ref qb, .ref qg, .int 0, .int 0, .int 0, .int 0, .int 0]))] sz) := by
  refine Met.ofW (cc := cX7_many) (maxL := 2) (ret := (some .int)) (by decide) rfl ?_
  intro p e s m args below meth c s₁ B hml hv
  obtain ⟨rfl, hsz, hP, hK, hD0, hZ⟩ := hv
  have hx := B.exec
  have hb := B.bytes
  have hr := B.returns
  have hts := atoms_spec (ws := zs_c_X7_many_1) B.pre
  have hown : s.vm.findClass RX7 = some m.cls := findClass_of_methodNamed B.named
  have hlocks := B.notSynchronized
  subst hsz
  have hD := hD0.self (sz := s.heap.size)
  generalize hAe : va_A [(h0, .inr (9, [.ref qm, .ref qt, .ref qw, .ref qc, .ref qb, .ref qg, .int 0, .int 0, .int 0, .int 0, .int 0]))] s.heap.size = A at hD hZ ⊢
  have hA : ∀ q : Nat, s.heap.size ≤ q → A q := fun q h => by rw [← hAe]; exact Or.inr h
  have hS : va_S A s.heap s.heap [] := va_S.rf
  have hl := lv_entry ([.ref h0, .int 1]) (n := 2) (Nat.le_of_ble_eq_true rfl)
  rw [lg_entry_eq]
  generalize (lg_sl ([.ref h0, .int 1]) ++ List.replicate (2 - (lg_sl ([.ref h0, .int 1])).length) Slot.unset).toArray = ls at hl ⊢
  have hl : lv_has ls 2 [(0, .ref h0), (1, .int 1)] := hl
  refine lv_iload_n hx hb dX7_many_0 rfl (lv_at hl 1 rfl) ?_
  refine lv_iconst (v := 0) hx hb dX7_many_1 (by decide) ?_
  refine lv_bipush (v := 10) hx hb dX7_many_2 (by decide) ?_
  have hPc := hP.sub (ws' := []) [] rfl
  have hDc := hD.sub (ws' := []) [] (by decide) rfl
  have hKc := hK.sub (tys' := []) [] rfl
  have hFc := va_free (wc := []) hD hS hA [] rfl
  have hZc := ((hZ.kept hS.2.1).narrow hFc)
  refine va_calli (va_runS (As := [.int 1, .int 0, .int 10]) (rest := []) ⟨hx, hb, hml, hown, hts⟩ (c_X7_isWithin l hnt dC dI a0 1 0 10 s.heap.size ) (va_cwS 3 hts (goodIn_of _ (by decide +kernel)) rfl rfl rfl (by decide +kernel) ⟨Nat.le_of_ble_eq_true rfl, Nat.le_of_ble_eq_true rfl⟩) ⟨fun a U g mk q => by obtain ⟨q0, q1, qP, qK, qD, qZ⟩ := q; exact ⟨q0, q1, qP, va_K.moved (u := U) (U := U.calling g mk a) (Vm.Alike.refl U.vm) qK, qD, qZ.call⟩, fun U hU hW => ⟨rfl, by rw [hU], by rw [hU]; exact hPc, va_K.moved hW.alike hKc, hDc.weaken (fun _ _ _ _ => trivial), by rw [hU]; exact hZc.warm hW⟩⟩ rfl rfl hl.1 rfl (lv_room (Nat.le_of_ble_eq_true rfl)) dX7_many_4 ⟨Nat.le_of_ble_eq_true rfl, Nat.le_of_ble_eq_true rfl⟩) hS (fun q _ h => hFc q h) hFc (fun r_1 u t H1 locs ht hvm hw hB hz1 hk1 hS => ?_)
  obtain ⟨hP1, hK1, hD1⟩ := hB
  rw [ht] at hP1
  have hK1 := va_K.moved hvm.symm hK1
  obtain ⟨hP, hD⟩ := va_join (wr := [(h0, .inr (9, [.ref qm, .ref qt, .ref qw, .ref qc, .ref qb, .ref qg, .int 0, .int 0, .int 0, .int 0, .int 0]))]) (w1 := []) hP hD [] [0] rfl rfl (by decide) (by decide) hk1 hFc hP1 hD1
  have hK := (hK.sub (tys' := []) [] rfl).app hK1
  generalize H1 = H at hP hS ⊢
  have hP : va_P (dC, dI) vwCl [(h0, .inr (9, [.ref qm, .ref qt, .ref qw, .ref qc, .ref qb, .ref qg, .int 0, .int 0, .int 0, .int 0, .int 0]))] H := hP
  have hD : va_D A [(h0, .inr (9, [.ref qm, .ref qt, .ref qw, .ref qc, .ref qb, .ref qg, .int 0, .int 0, .int 0, .int 0, .int 0]))] := hD
  have hK : va_K (dC, dI) vwCl [] s := hK
  refine W.widen (k := 0) (n := 0) (Nat.le_of_ble_eq_true rfl) (Nat.le_of_ble_eq_true rfl) ?_
  obtain rfl : r_1 = 1 := hw.trans (by decide)
  have hPc := hP.sub (ws' := []) [] rfl
  have hDc := hD.sub (ws' := []) [] (by decide) rfl
  have hKc := hK.sub (tys' := []) [] rfl
  have hFc := va_free (wc := []) hD hS hA [] rfl
  have hZc := ((hZ.kept hS.2.1).narrow hFc)
  refine va_callv (va_runS (As := [.int 1]) (rest := []) ⟨hx, hb, hml, hown, hts⟩ (c_X7_require_ok l hnt dC dI a0  H.size ) (va_cwS 1 hts (goodIn_of _ (by decide +kernel)) rfl rfl rfl (by decide +kernel) ⟨Nat.le_of_ble_eq_true rfl, Nat.le_of_ble_eq_true rfl⟩) ⟨fun a U g mk q => by obtain ⟨q0, q1, qP, qK, qD, qZ⟩ := q; exact ⟨q0, q1, qP, va_K.moved (u := U) (U := U.calling g mk a) (Vm.Alike.refl U.vm) qK, qD, qZ.call⟩, fun U hU hW => ⟨rfl, by rw [hU], by rw [hU]; exact hPc, va_K.moved hW.alike hKc, hDc.weaken (fun _ _ _ _ => trivial), by rw [hU]; exact hZc.warm hW⟩⟩ rfl rfl hl.1 rfl (lv_room (Nat.le_of_ble_eq_true rfl)) dX7_many_7 ⟨Nat.le_of_ble_eq_true rfl, Nat.le_of_ble_eq_true rfl⟩) hS (fun q _ h => hFc q h) hFc (fun u t H1 locs ht hvm hw hB hz1 hk1 hS => ?_)
  obtain ⟨hP1, hK1, hD1⟩ := hB
  rw [ht] at hP1
  have hK1 := va_K.moved hvm.symm hK1
  obtain ⟨hP, hD⟩ := va_join (wr := [(h0, .inr (9, [.ref qm, .ref qt, .ref qw, .ref qc, .ref qb, .ref qg, .int 0, .int 0, .int 0, .int 0, .int 0]))]) (w1 := []) hP hD [] [0] rfl rfl (by decide) (by decide) hk1 hFc hP1 hD1
  have hK := (hK.sub (tys' := []) [] rfl).app hK1
  generalize H1 = H at hP hS ⊢
  have hP : va_P (dC, dI) vwCl [(h0, .inr (9, [.ref qm, .ref qt, .ref qw, .ref qc, .ref qb, .ref qg, .int 0, .int 0, .int 0, .int 0, .int 0]))] H := hP
  have hD : va_D A [(h0, .inr (9, [.ref qm, .ref qt, .ref qw, .ref qc, .ref qb, .ref qg, .int 0, .int 0, .int 0, .int 0, .int 0]))] := hD
  have hK : va_K (dC, dI) vwCl [] s := hK
  refine W.widen (k := 0) (n := 0) (Nat.le_of_ble_eq_true rfl) (Nat.le_of_ble_eq_true rfl) ?_
  refine lv_iload_n hx hb dX7_many_10 rfl (lv_at hl 1 rfl) ?_
  refine lv_tableIn (tgt := 73) hx hb dX7_many_11 (by decide) (by decide) rfl (by decide) ?_
  refine lv_aload_n hx hb dX7_many_73 rfl (lv_at hl 0 rfl) ?_
  refine lv_iconst (v := (-1)) hx hb dX7_many_74 (by decide) ?_
  have hPc := hP.sub (ws' := [(h0, .inr (9, [.ref qm, .ref qt, .ref qw, .ref qc, .ref qb, .ref qg, .int 0, .int 0, .int 0, .int 0, .int 0]))]) [0] rfl
  have hDc := hD.sub (ws' := [(h0, .inr (9, [.ref qm, .ref qt, .ref qw, .ref qc, .ref qb, .ref qg, .int 0, .int 0, .int 0, .int 0, .int 0]))]) [0] (by decide) rfl
  have hKc := hK.sub (tys' := []) [] rfl
  have hFc := va_free (wc := [(h0, .inr (9, [.ref qm, .ref qt, .ref qw, .ref qc, .ref qb, .ref qg, .int 0, .int 0, .int 0, .int 0, .int 0]))]) hD hS hA [0] rfl
  have hZc := ((hZ.kept hS.2.1).narrow hFc)
  refine va_calli (va_runV (As := [.int (-1)]) (rest := []) ⟨hx, hb, hml, hown, hts⟩ (c_X7_countOfKind l hnt dC dI a0 h0 qm qt qw qc qb qg ((-1)) H.size ) (cwV 1 hts (goodIn_of _ (by decide +kernel)) rfl rfl rfl (by decide +kernel) ⟨Nat.le_of_ble_eq_true rfl, Nat.le_of_ble_eq_true rfl⟩) ⟨fun a U g mk q => by obtain ⟨q0, q1, qP, qK, qD, qZ⟩ := q; exact ⟨q0, q1, qP, va_K.moved (u := U) (U := U.calling g mk a) (Vm.Alike.refl U.vm) qK, qD, qZ.call⟩, va_recv hKc hPc (ci := 9) (q0 := 0) rfl rfl, fun U hU hW => ⟨rfl, by rw [hU], by rw [hU]; exact hPc, va_K.moved hW.alike hKc, hDc.weaken (fun _ _ _ _ => trivial), by rw [hU]; exact hZc.warm hW⟩⟩ rfl rfl hl.1 rfl (lv_room (Nat.le_of_ble_eq_true rfl)) dX7_many_75 ⟨Nat.le_of_ble_eq_true rfl, Nat.le_of_ble_eq_true rfl⟩) hS (fun q _ h => hFc q h) hFc (fun r_3 u t H1 locs ht hvm hw hB hz1 hk1 hS => ?_)
  obtain ⟨hP1, hK1, hD1⟩ := hB
  rw [ht] at hP1
  have hK1 := va_K.moved hvm.symm hK1
  obtain ⟨hP, hD⟩ := va_join (wr := []) (w1 := [(h0, .inr (9, [.ref qm, .ref qt, .ref qw, .ref qc, .ref qb, .ref qg, .int 0, .int 0, .int 0, .int 0, .int 0]))]) hP hD [0] [] rfl rfl (by decide) (by decide) hk1 hFc hP1 hD1
  have hK := (hK.sub (tys' := []) [] rfl).app hK1
  generalize H1 = H at hP hS ⊢
  have hP : va_P (dC, dI) vwCl [(h0, .inr (9, [.ref qm, .ref qt, .ref qw, .ref qc, .ref qb, .ref qg, .int 0, .int 0, .int 0, .int 0, .int 0]))] H := hP
  have hD : va_D A [(h0, .inr (9, [.ref qm, .ref qt, .ref qw, .ref qc, .ref qb, .ref qg, .int 0, .int 0, .int 0, .int 0, .int 0]))] := hD
  have hK : va_K (dC, dI) vwCl [] s := hK
  refine W.widen (k := 0) (n := 0) (Nat.le_of_ble_eq_true rfl) (Nat.le_of_ble_eq_true rfl) ?_
  obtain rfl : r_3 = 0 := hw
  have hP9 := hP.sub (ws' := [(h0, .inr (9, [.ref qm, .ref qt, .ref qw, .ref qc, .ref qb, .ref qg, .int 0, .int 0, .int 0, .int 0, .int 0]))]) [0] rfl
  have hD9 := hD.sub (ws' := [(h0, .inr (9, [.ref qm, .ref qt, .ref qw, .ref qc, .ref qb, .ref qg, .int 0, .int 0, .int 0, .int 0, .int 0]))]) [0] (by decide) rfl
  have hK9 := hK.sub (tys' := []) [] rfl
  refine W.widen (k := 0) (n := 0) (Nat.le_of_ble_eq_true rfl) (Nat.le_of_ble_eq_true rfl) ?_
  exact W.iret (v := 0) hx hb hr (fun t ht hW => ⟨⟨0, (), rfl, rfl, ⟨by rw [ht]; exact hP9, va_K.moved hW.alike hK9, hD9⟩⟩, hS.F ht⟩) hS.2.2 dX7_many_78

def zs_c_X7_many_2 : List Cond := .code yX7_many cX7_many 2 (some .int) :: (([.code yX7_isWithin cX7_isWithin 3 (some .boolean), .methodLink RX7 49 yX7_isWithin, .static yX7_isWithin, .initialized RX7, .code yX7_require cX7_require 1 none, .methodLink RX7 53 yX7_require, .static yX7_require, .code yX7_countOfKind cX7_countOfKind 4 (some .int), .fieldLink RX7 148 "Haltingale" "machineCount" "I", .methodLink RX7 252 yX7_countOfKind, .instanceMethod yX7_countOfKind, .selects RX7 yX7_countOfKind yX7_countOfKind] : List Cond) ++ wsX70)
set_option maxHeartbeats 4000000 in
set_option maxRecDepth 100000 in
/-- many of 2 -/
theorem c_X7_many_2 (l : Launch) (hnt : l.stackTraces = false) (dC : Nat → ClassId) (dI : Nat → Nat → Nat) (a0 : Nat) (h0 : Nat) (qm : Nat) (qt : Nat) (qw : Nat) (qc : Nat) (qb : Nat) (qg : Nat) (sz : Nat)  : Met l yX7_many zs_c_X7_many_2 ({ frames := 1, cells := 0, slots := 0, locals := 23 }) (va_Pc [.ref h0, .int 2] (fun U => U.heap.size = sz ∧ va_P (dC, dI) vwCl [(h0, .inr (9, [.ref qm, .ref qt, .ref qw, .ref qc, .ref qb, .ref qg, .int 0, .int 0, .int 0, .int 0, .int 0]))] U.heap ∧ va_K (dC, dI) vwCl [] U ∧ va_D (fun _ => True) [(h0, .inr (9, [.ref qm, .ref qt, .ref qw, .ref qc, .ref qb, .ref qg, .int 0, .int 0, .int 0, .int 0, .int 0]))] ∧ zB a0 (va_A [(h0, .inr (9, [.ref qm, .ref qt, .ref qw, .ref qc, .ref qb, .ref qg, .int 0, .int 0, .int 0, .int 0, .int 0]))] sz) U U.heap)) (va_Qi (fun (r : Int32) (_ : Unit) => r = 0) (fun _ t => va_P (dC, dI) vwCl [(h0, .inr (9, [.ref qm, .ref qt, .ref qw, .ref qc, .ref qb, .ref qg, .int 0, .int 0, .int 0, .int 0, .int 0]))] t.heap ∧ va_K (dC, dI) vwCl [] t ∧ va_D (va_A [(h0, .inr (9, [.ref qm, .ref qt, .ref qw, .ref qc, .ref qb, .ref qg, .int 0, .int 0, .int 0, .int 0, .int 0]))] sz) [(h0, .inr (9, [.ref qm, .ref qt, .ref qw, .ref qc, .ref qb, .ref qg, .int 0, .int 0, .int 0, .int 0, .int 0]))]) (va_A [(h0, .inr (9, [.ref qm, .ref qt, .ref qw, .ref qc, .ref qb, .ref qg, .int 0, .int 0, .int 0, .int 0, .int 0]))] sz)) 0 0 (va_A [(h0, .inr (9, [.ref qm, .ref qt, .ref qw, .ref qc, .ref qb, .ref qg, .int 0, .int 0, .int 0, .int 0, .int 0]))] sz) := by
  refine Met.ofW (cc := cX7_many) (maxL := 2) (ret := (some .int)) (by decide) rfl ?_
  intro p e s m args below meth c s₁ B hml hv
  obtain ⟨rfl, hsz, hP, hK, hD0, hZ⟩ := hv
  have hx := B.exec
  have hb := B.bytes
  have hr := B.returns
  have hts := atoms_spec (ws := zs_c_X7_many_2) B.pre
  have hown : s.vm.findClass RX7 = some m.cls := findClass_of_methodNamed B.named
  have hlocks := B.notSynchronized
  subst hsz
  have hD := hD0.self (sz := s.heap.size)
  generalize hAe : va_A [(h0, .inr (9, [.ref qm, .ref qt, .ref qw, .ref qc, .ref qb, .ref qg, .int 0, .int 0, .int 0, .int 0, .int 0]))] s.heap.size = A at hD hZ ⊢
  have hA : ∀ q : Nat, s.heap.size ≤ q → A q := fun q h => by rw [← hAe]; exact Or.inr h
  have hS : va_S A s.heap s.heap [] := va_S.rf
  have hl := lv_entry ([.ref h0, .int 2]) (n := 2) (Nat.le_of_ble_eq_true rfl)
  rw [lg_entry_eq]
  generalize (lg_sl ([.ref h0, .int 2]) ++ List.replicate (2 - (lg_sl ([.ref h0, .int 2])).length) Slot.unset).toArray = ls at hl ⊢
  have hl : lv_has ls 2 [(0, .ref h0), (1, .int 2)] := hl
  refine lv_iload_n hx hb dX7_many_0 rfl (lv_at hl 1 rfl) ?_
  refine lv_iconst (v := 0) hx hb dX7_many_1 (by decide) ?_
  refine lv_bipush (v := 10) hx hb dX7_many_2 (by decide) ?_
  have hPc := hP.sub (ws' := []) [] rfl
  have hDc := hD.sub (ws' := []) [] (by decide) rfl
  have hKc := hK.sub (tys' := []) [] rfl
  have hFc := va_free (wc := []) hD hS hA [] rfl
  have hZc := ((hZ.kept hS.2.1).narrow hFc)
  refine va_calli (va_runS (As := [.int 2, .int 0, .int 10]) (rest := []) ⟨hx, hb, hml, hown, hts⟩ (c_X7_isWithin l hnt dC dI a0 2 0 10 s.heap.size ) (va_cwS 3 hts (goodIn_of _ (by decide +kernel)) rfl rfl rfl (by decide +kernel) ⟨Nat.le_of_ble_eq_true rfl, Nat.le_of_ble_eq_true rfl⟩) ⟨fun a U g mk q => by obtain ⟨q0, q1, qP, qK, qD, qZ⟩ := q; exact ⟨q0, q1, qP, va_K.moved (u := U) (U := U.calling g mk a) (Vm.Alike.refl U.vm) qK, qD, qZ.call⟩, fun U hU hW => ⟨rfl, by rw [hU], by rw [hU]; exact hPc, va_K.moved hW.alike hKc, hDc.weaken (fun _ _ _ _ => trivial), by rw [hU]; exact hZc.warm hW⟩⟩ rfl rfl hl.1 rfl (lv_room (Nat.le_of_ble_eq_true rfl)) dX7_many_4 ⟨Nat.le_of_ble_eq_true rfl, Nat.le_of_ble_eq_true rfl⟩) hS (fun q _ h => hFc q h) hFc (fun r_1 u t H1 locs ht hvm hw hB hz1 hk1 hS => ?_)
  obtain ⟨hP1, hK1, hD1⟩ := hB
  rw [ht] at hP1
  have hK1 := va_K.moved hvm.symm hK1
  obtain ⟨hP, hD⟩ := va_join (wr := [(h0, .inr (9, [.ref qm, .ref qt, .ref qw, .ref qc, .ref qb, .ref qg, .int 0, .int 0, .int 0, .int 0, .int 0]))]) (w1 := []) hP hD [] [0] rfl rfl (by decide) (by decide) hk1 hFc hP1 hD1
  have hK := (hK.sub (tys' := []) [] rfl).app hK1
  generalize H1 = H at hP hS ⊢
  have hP : va_P (dC, dI) vwCl [(h0, .inr (9, [.ref qm, .ref qt, .ref qw, .ref qc, .ref qb, .ref qg, .int 0, .int 0, .int 0, .int 0, .int 0]))] H := hP
  have hD : va_D A [(h0, .inr (9, [.ref qm, .ref qt, .ref qw, .ref qc, .ref qb, .ref qg, .int 0, .int 0, .int 0, .int 0, .int 0]))] := hD
  have hK : va_K (dC, dI) vwCl [] s := hK
  refine W.widen (k := 0) (n := 0) (Nat.le_of_ble_eq_true rfl) (Nat.le_of_ble_eq_true rfl) ?_
  obtain rfl : r_1 = 1 := hw.trans (by decide)
  have hPc := hP.sub (ws' := []) [] rfl
  have hDc := hD.sub (ws' := []) [] (by decide) rfl
  have hKc := hK.sub (tys' := []) [] rfl
  have hFc := va_free (wc := []) hD hS hA [] rfl
  have hZc := ((hZ.kept hS.2.1).narrow hFc)
  refine va_callv (va_runS (As := [.int 1]) (rest := []) ⟨hx, hb, hml, hown, hts⟩ (c_X7_require_ok l hnt dC dI a0  H.size ) (va_cwS 1 hts (goodIn_of _ (by decide +kernel)) rfl rfl rfl (by decide +kernel) ⟨Nat.le_of_ble_eq_true rfl, Nat.le_of_ble_eq_true rfl⟩) ⟨fun a U g mk q => by obtain ⟨q0, q1, qP, qK, qD, qZ⟩ := q; exact ⟨q0, q1, qP, va_K.moved (u := U) (U := U.calling g mk a) (Vm.Alike.refl U.vm) qK, qD, qZ.call⟩, fun U hU hW => ⟨rfl, by rw [hU], by rw [hU]; exact hPc, va_K.moved hW.alike hKc, hDc.weaken (fun _ _ _ _ => trivial), by rw [hU]; exact hZc.warm hW⟩⟩ rfl rfl hl.1 rfl (lv_room (Nat.le_of_ble_eq_true rfl)) dX7_many_7 ⟨Nat.le_of_ble_eq_true rfl, Nat.le_of_ble_eq_true rfl⟩) hS (fun q _ h => hFc q h) hFc (fun u t H1 locs ht hvm hw hB hz1 hk1 hS => ?_)
  obtain ⟨hP1, hK1, hD1⟩ := hB
  rw [ht] at hP1
  have hK1 := va_K.moved hvm.symm hK1
  obtain ⟨hP, hD⟩ := va_join (wr := [(h0, .inr (9, [.ref qm, .ref qt, .ref qw, .ref qc, .ref qb, .ref qg, .int 0, .int 0, .int 0, .int 0, .int 0]))]) (w1 := []) hP hD [] [0] rfl rfl (by decide) (by decide) hk1 hFc hP1 hD1
  have hK := (hK.sub (tys' := []) [] rfl).app hK1
  generalize H1 = H at hP hS ⊢
  have hP : va_P (dC, dI) vwCl [(h0, .inr (9, [.ref qm, .ref qt, .ref qw, .ref qc, .ref qb, .ref qg, .int 0, .int 0, .int 0, .int 0, .int 0]))] H := hP
  have hD : va_D A [(h0, .inr (9, [.ref qm, .ref qt, .ref qw, .ref qc, .ref qb, .ref qg, .int 0, .int 0, .int 0, .int 0, .int 0]))] := hD
  have hK : va_K (dC, dI) vwCl [] s := hK
  refine W.widen (k := 0) (n := 0) (Nat.le_of_ble_eq_true rfl) (Nat.le_of_ble_eq_true rfl) ?_
  refine lv_iload_n hx hb dX7_many_10 rfl (lv_at hl 1 rfl) ?_
  refine lv_tableIn (tgt := 104) hx hb dX7_many_11 (by decide) (by decide) rfl (by decide) ?_
  refine lv_aload_n hx hb dX7_many_104 rfl (lv_at hl 0 rfl) ?_
  refine lv_iload_n hx hb dX7_many_105 rfl (lv_at hl 1 rfl) ?_
  refine lv_iconst (v := 2) hx hb dX7_many_106 (by decide) ?_
  refine lv_isub hx hb dX7_many_107 ?_
  refine lv_topi (fun x_3 ex_3 => ?_)
  obtain rfl : x_3 = 0 := ex_3.trans (by decide)
  have hPc := hP.sub (ws' := [(h0, .inr (9, [.ref qm, .ref qt, .ref qw, .ref qc, .ref qb, .ref qg, .int 0, .int 0, .int 0, .int 0, .int 0]))]) [0] rfl
  have hDc := hD.sub (ws' := [(h0, .inr (9, [.ref qm, .ref qt, .ref qw, .ref qc, .ref qb, .ref qg, .int 0, .int 0, .int 0, .int 0, .int 0]))]) [0] (by decide) rfl
  have hKc := hK.sub (tys' := []) [] rfl
  have hFc := va_free (wc := [(h0, .inr (9, [.ref qm, .ref qt, .ref qw, .ref qc, .ref qb, .ref qg, .int 0, .int 0, .int 0, .int 0, .int 0]))]) hD hS hA [0] rfl
  have hZc := ((hZ.kept hS.2.1).narrow hFc)
  refine va_calli (va_runV (As := [.int 0]) (rest := []) ⟨hx, hb, hml, hown, hts⟩ (c_X7_countOfKind l hnt dC dI a0 h0 qm qt qw qc qb qg 0 H.size ) (cwV 1 hts (goodIn_of _ (by decide +kernel)) rfl rfl rfl (by decide +kernel) ⟨Nat.le_of_ble_eq_true rfl, Nat.le_of_ble_eq_true rfl⟩) ⟨fun a U g mk q => by obtain ⟨q0, q1, qP, qK, qD, qZ⟩ := q; exact ⟨q0, q1, qP, va_K.moved (u := U) (U := U.calling g mk a) (Vm.Alike.refl U.vm) qK, qD, qZ.call⟩, va_recv hKc hPc (ci := 9) (q0 := 0) rfl rfl, fun U hU hW => ⟨rfl, by rw [hU], by rw [hU]; exact hPc, va_K.moved hW.alike hKc, hDc.weaken (fun _ _ _ _ => trivial), by rw [hU]; exact hZc.warm hW⟩⟩ rfl rfl hl.1 rfl (lv_room (Nat.le_of_ble_eq_true rfl)) dX7_many_108 ⟨Nat.le_of_ble_eq_true rfl, Nat.le_of_ble_eq_true rfl⟩) hS (fun q _ h => hFc q h) hFc (fun r_4 u t H1 locs ht hvm hw hB hz1 hk1 hS => ?_)
  obtain ⟨hP1, hK1, hD1⟩ := hB
  rw [ht] at hP1
  have hK1 := va_K.moved hvm.symm hK1
  obtain ⟨hP, hD⟩ := va_join (wr := []) (w1 := [(h0, .inr (9, [.ref qm, .ref qt, .ref qw, .ref qc, .ref qb, .ref qg, .int 0, .int 0, .int 0, .int 0, .int 0]))]) hP hD [0] [] rfl rfl (by decide) (by decide) hk1 hFc hP1 hD1
  have hK := (hK.sub (tys' := []) [] rfl).app hK1
  generalize H1 = H at hP hS ⊢
  have hP : va_P (dC, dI) vwCl [(h0, .inr (9, [.ref qm, .ref qt, .ref qw, .ref qc, .ref qb, .ref qg, .int 0, .int 0, .int 0, .int 0, .int 0]))] H := hP
  have hD : va_D A [(h0, .inr (9, [.ref qm, .ref qt, .ref qw, .ref qc, .ref qb, .ref qg, .int 0, .int 0, .int 0, .int 0, .int 0]))] := hD
  have hK : va_K (dC, dI) vwCl [] s := hK
  refine W.widen (k := 0) (n := 0) (Nat.le_of_ble_eq_true rfl) (Nat.le_of_ble_eq_true rfl) ?_
  obtain rfl : r_4 = 0 := hw
  have hP9 := hP.sub (ws' := [(h0, .inr (9, [.ref qm, .ref qt, .ref qw, .ref qc, .ref qb, .ref qg, .int 0, .int 0, .int 0, .int 0, .int 0]))]) [0] rfl
  have hD9 := hD.sub (ws' := [(h0, .inr (9, [.ref qm, .ref qt, .ref qw, .ref qc, .ref qb, .ref qg, .int 0, .int 0, .int 0, .int 0, .int 0]))]) [0] (by decide) rfl
  have hK9 := hK.sub (tys' := []) [] rfl
  refine W.widen (k := 0) (n := 0) (Nat.le_of_ble_eq_true rfl) (Nat.le_of_ble_eq_true rfl) ?_
  exact W.iret (v := 0) hx hb hr (fun t ht hW => ⟨⟨0, (), rfl, rfl, ⟨by rw [ht]; exact hP9, va_K.moved hW.alike hK9, hD9⟩⟩, hS.F ht⟩) hS.2.2 dX7_many_111

def zs_c_X7_many_3 : List Cond := .code yX7_many cX7_many 2 (some .int) :: (([.code yX7_isWithin cX7_isWithin 3 (some .boolean), .methodLink RX7 49 yX7_isWithin, .static yX7_isWithin, .initialized RX7, .code yX7_require cX7_require 1 none, .methodLink RX7 53 yX7_require, .static yX7_require, .code yX7_countOfKind cX7_countOfKind 4 (some .int), .fieldLink RX7 148 "Haltingale" "machineCount" "I", .methodLink RX7 252 yX7_countOfKind, .instanceMethod yX7_countOfKind, .selects RX7 yX7_countOfKind yX7_countOfKind] : List Cond) ++ wsX70)
set_option maxHeartbeats 4000000 in
set_option maxRecDepth 100000 in
/-- many of 3 -/
theorem c_X7_many_3 (l : Launch) (hnt : l.stackTraces = false) (dC : Nat → ClassId) (dI : Nat → Nat → Nat) (a0 : Nat) (h0 : Nat) (qm : Nat) (qt : Nat) (qw : Nat) (qc : Nat) (qb : Nat) (qg : Nat) (sz : Nat)  : Met l yX7_many zs_c_X7_many_3 ({ frames := 1, cells := 0, slots := 0, locals := 23 }) (va_Pc [.ref h0, .int 3] (fun U => U.heap.size = sz ∧ va_P (dC, dI) vwCl [(h0, .inr (9, [.ref qm, .ref qt, .ref qw, .ref qc, .ref qb, .ref qg, .int 0, .int 0, .int 0, .int 0, .int 0]))] U.heap ∧ va_K (dC, dI) vwCl [] U ∧ va_D (fun _ => True) [(h0, .inr (9, [.ref qm, .ref qt, .ref qw, .ref qc, .ref qb, .ref qg, .int 0, .int 0, .int 0, .int 0, .int 0]))] ∧ zB a0 (va_A [(h0, .inr (9, [.ref qm, .ref qt, .ref qw, .ref qc, .ref qb, .ref qg, .int 0, .int 0, .int 0, .int 0, .int 0]))] sz) U U.heap)) (va_Qi (fun (r : Int32) (_ : Unit) => r = 0) (fun _ t => va_P (dC, dI) vwCl [(h0, .inr (9, [.ref qm, .ref qt, .ref qw, .ref qc, .ref qb, .ref qg, .int 0, .int 0, .int 0, .int 0, .int 0]))] t.heap ∧ va_K (dC, dI) vwCl [] t ∧ va_D (va_A [(h0, .inr (9, [.ref qm, .ref qt, .ref qw, .ref qc, .ref qb, .ref qg, .int 0, .int 0, .int 0, .int 0, .int 0]))] sz) [(h0, .inr (9, [.ref qm, .ref qt, .ref qw, .ref qc, .ref qb, .ref qg, .int 0, .int 0, .int 0, .int 0, .int 0]))]) (va_A [(h0, .inr (9, [.ref qm, .ref qt, .ref qw, .ref qc, .ref qb, .ref qg, .int 0, .int 0, .int 0, .int 0, .int 0]))] sz)) 0 0 (va_A [(h0, .inr (9, [.ref qm, .ref qt, .ref qw, .ref qc, .ref qb, .ref qg, .int 0, .int 0, .int 0, .int 0, .int 0]))] sz) := by
  refine Met.ofW (cc := cX7_many) (maxL := 2) (ret := (some .int)) (by decide) rfl ?_
  intro p e s m args below meth c s₁ B hml hv
  obtain ⟨rfl, hsz, hP, hK, hD0, hZ⟩ := hv
  have hx := B.exec
  have hb := B.bytes
  have hr := B.returns
  have hts := atoms_spec (ws := zs_c_X7_many_3) B.pre
  have hown : s.vm.findClass RX7 = some m.cls := findClass_of_methodNamed B.named
  have hlocks := B.notSynchronized
  subst hsz
  have hD := hD0.self (sz := s.heap.size)
  generalize hAe : va_A [(h0, .inr (9, [.ref qm, .ref qt, .ref qw, .ref qc, .ref qb, .ref qg, .int 0, .int 0, .int 0, .int 0, .int 0]))] s.heap.size = A at hD hZ ⊢
  have hA : ∀ q : Nat, s.heap.size ≤ q → A q := fun q h => by rw [← hAe]; exact Or.inr h
  have hS : va_S A s.heap s.heap [] := va_S.rf
  have hl := lv_entry ([.ref h0, .int 3]) (n := 2) (Nat.le_of_ble_eq_true rfl)
  rw [lg_entry_eq]
  generalize (lg_sl ([.ref h0, .int 3]) ++ List.replicate (2 - (lg_sl ([.ref h0, .int 3])).length) Slot.unset).toArray = ls at hl ⊢
  have hl : lv_has ls 2 [(0, .ref h0), (1, .int 3)] := hl
  refine lv_iload_n hx hb dX7_many_0 rfl (lv_at hl 1 rfl) ?_
  refine lv_iconst (v := 0) hx hb dX7_many_1 (by decide) ?_
  refine lv_bipush (v := 10) hx hb dX7_many_2 (by decide) ?_
  have hPc := hP.sub (ws' := []) [] rfl
  have hDc := hD.sub (ws' := []) [] (by decide) rfl
  have hKc := hK.sub (tys' := []) [] rfl
  have hFc := va_free (wc := []) hD hS hA [] rfl
  have hZc := ((hZ.kept hS.2.1).narrow hFc)
  refine va_calli (va_runS (As := [.int 3, .int 0, .int 10]) (rest := []) ⟨hx, hb, hml, hown, hts⟩ (c_X7_isWithin l hnt dC dI a0 3 0 10 s.heap.size ) (va_cwS 3 hts (goodIn_of _ (by decide +kernel)) rfl rfl rfl (by decide +kernel) ⟨Nat.le_of_ble_eq_true rfl, Nat.le_of_ble_eq_true rfl⟩) ⟨fun a U g mk q => by obtain ⟨q0, q1, qP, qK, qD, qZ⟩ := q; exact ⟨q0, q1, qP, va_K.moved (u := U) (U := U.calling g mk a) (Vm.Alike.refl U.vm) qK, qD, qZ.call⟩, fun U hU hW => ⟨rfl, by rw [hU], by rw [hU]; exact hPc, va_K.moved hW.alike hKc, hDc.weaken (fun _ _ _ _ => trivial), by rw [hU]; exact hZc.warm hW⟩⟩ rfl rfl hl.1 rfl (lv_room (Nat.le_of_ble_eq_true rfl)) dX7_many_4 ⟨Nat.le_of_ble_eq_true rfl, Nat.le_of_ble_eq_true rfl⟩) hS (fun q _ h => hFc q h) hFc (fun r_1 u t H1 locs ht hvm hw hB hz1 hk1 hS => ?_)
  obtain ⟨hP1, hK1, hD1⟩ := hB
  rw [ht] at hP1
  have hK1 := va_K.moved hvm.symm hK1
  obtain ⟨hP, hD⟩ := va_join (wr := [(h0, .inr (9, [.ref qm, .ref qt, .ref qw, .ref qc, .ref qb, .ref qg, .int 0, .int 0, .int 0, .int 0, .int 0]))]) (w1 := []) hP hD [] [0] rfl rfl (by decide) (by decide) hk1 hFc hP1 hD1
  have hK := (hK.sub (tys' := []) [] rfl).app hK1
  generalize H1 = H at hP hS ⊢
  have hP : va_P (dC, dI) vwCl [(h0, .inr (9, [.ref qm, .ref qt, .ref qw, .ref qc, .ref qb, .ref qg, .int 0, .int 0, .int 0, .int 0, .int 0]))] H := hP
  have hD : va_D A [(h0, .inr (9, [.ref qm, .ref qt, .ref qw, .ref qc, .ref qb, .ref qg, .int 0, .int 0, .int 0, .int 0, .int 0]))] := hD
  have hK : va_K (dC, dI) vwCl [] s := hK
  refine W.widen (k := 0) (n := 0) (Nat.le_of_ble_eq_true rfl) (Nat.le_of_ble_eq_true rfl) ?_
  obtain rfl : r_1 = 1 := hw.trans (by decide)
  have hPc := hP.sub (ws' := []) [] rfl
  have hDc := hD.sub (ws' := []) [] (by decide) rfl
  have hKc := hK.sub (tys' := []) [] rfl
  have hFc := va_free (wc := []) hD hS hA [] rfl
  have hZc := ((hZ.kept hS.2.1).narrow hFc)
  refine va_callv (va_runS (As := [.int 1]) (rest := []) ⟨hx, hb, hml, hown, hts⟩ (c_X7_require_ok l hnt dC dI a0  H.size ) (va_cwS 1 hts (goodIn_of _ (by decide +kernel)) rfl rfl rfl (by decide +kernel) ⟨Nat.le_of_ble_eq_true rfl, Nat.le_of_ble_eq_true rfl⟩) ⟨fun a U g mk q => by obtain ⟨q0, q1, qP, qK, qD, qZ⟩ := q; exact ⟨q0, q1, qP, va_K.moved (u := U) (U := U.calling g mk a) (Vm.Alike.refl U.vm) qK, qD, qZ.call⟩, fun U hU hW => ⟨rfl, by rw [hU], by rw [hU]; exact hPc, va_K.moved hW.alike hKc, hDc.weaken (fun _ _ _ _ => trivial), by rw [hU]; exact hZc.warm hW⟩⟩ rfl rfl hl.1 rfl (lv_room (Nat.le_of_ble_eq_true rfl)) dX7_many_7 ⟨Nat.le_of_ble_eq_true rfl, Nat.le_of_ble_eq_true rfl⟩) hS (fun q _ h => hFc q h) hFc (fun u t H1 locs ht hvm hw hB hz1 hk1 hS => ?_)
  obtain ⟨hP1, hK1, hD1⟩ := hB
  rw [ht] at hP1
  have hK1 := va_K.moved hvm.symm hK1
  obtain ⟨hP, hD⟩ := va_join (wr := [(h0, .inr (9, [.ref qm, .ref qt, .ref qw, .ref qc, .ref qb, .ref qg, .int 0, .int 0, .int 0, .int 0, .int 0]))]) (w1 := []) hP hD [] [0] rfl rfl (by decide) (by decide) hk1 hFc hP1 hD1
  have hK := (hK.sub (tys' := []) [] rfl).app hK1
  generalize H1 = H at hP hS ⊢
  have hP : va_P (dC, dI) vwCl [(h0, .inr (9, [.ref qm, .ref qt, .ref qw, .ref qc, .ref qb, .ref qg, .int 0, .int 0, .int 0, .int 0, .int 0]))] H := hP
  have hD : va_D A [(h0, .inr (9, [.ref qm, .ref qt, .ref qw, .ref qc, .ref qb, .ref qg, .int 0, .int 0, .int 0, .int 0, .int 0]))] := hD
  have hK : va_K (dC, dI) vwCl [] s := hK
  refine W.widen (k := 0) (n := 0) (Nat.le_of_ble_eq_true rfl) (Nat.le_of_ble_eq_true rfl) ?_
  refine lv_iload_n hx hb dX7_many_10 rfl (lv_at hl 1 rfl) ?_
  refine lv_tableIn (tgt := 104) hx hb dX7_many_11 (by decide) (by decide) rfl (by decide) ?_
  refine lv_aload_n hx hb dX7_many_104 rfl (lv_at hl 0 rfl) ?_
  refine lv_iload_n hx hb dX7_many_105 rfl (lv_at hl 1 rfl) ?_
  refine lv_iconst (v := 2) hx hb dX7_many_106 (by decide) ?_
  refine lv_isub hx hb dX7_many_107 ?_
  refine lv_topi (fun x_3 ex_3 => ?_)
  obtain rfl : x_3 = 1 := ex_3.trans (by decide)
  have hPc := hP.sub (ws' := [(h0, .inr (9, [.ref qm, .ref qt, .ref qw, .ref qc, .ref qb, .ref qg, .int 0, .int 0, .int 0, .int 0, .int 0]))]) [0] rfl
  have hDc := hD.sub (ws' := [(h0, .inr (9, [.ref qm, .ref qt, .ref qw, .ref qc, .ref qb, .ref qg, .int 0, .int 0, .int 0, .int 0, .int 0]))]) [0] (by decide) rfl
  have hKc := hK.sub (tys' := []) [] rfl
  have hFc := va_free (wc := [(h0, .inr (9, [.ref qm, .ref qt, .ref qw, .ref qc, .ref qb, .ref qg, .int 0, .int 0, .int 0, .int 0, .int 0]))]) hD hS hA [0] rfl
  have hZc := ((hZ.kept hS.2.1).narrow hFc)
  refine va_calli (va_runV (As := [.int 1]) (rest := []) ⟨hx, hb, hml, hown, hts⟩ (c_X7_countOfKind l hnt dC dI a0 h0 qm qt qw qc qb qg 1 H.size ) (cwV 1 hts (goodIn_of _ (by decide +kernel)) rfl rfl rfl (by decide +kernel) ⟨Nat.le_of_ble_eq_true rfl, Nat.le_of_ble_eq_true rfl⟩) ⟨fun a U g mk q => by obtain ⟨q0, q1, qP, qK, qD, qZ⟩ := q; exact ⟨q0, q1, qP, va_K.moved (u := U) (U := U.calling g mk a) (Vm.Alike.refl U.vm) qK, qD, qZ.call⟩, va_recv hKc hPc (ci := 9) (q0 := 0) rfl rfl, fun U hU hW => ⟨rfl, by rw [hU], by rw [hU]; exact hPc, va_K.moved hW.alike hKc, hDc.weaken (fun _ _ _ _ => trivial), by rw [hU]; exact hZc.warm hW⟩⟩ rfl rfl hl.1 rfl (lv_room (Nat.le_of_ble_eq_true rfl)) dX7_many_108 ⟨Nat.le_of_ble_eq_true rfl, Nat.le_of_ble_eq_true rfl⟩) hS (fun q _ h => hFc q h) hFc (fun r_4 u t H1 locs ht hvm hw hB hz1 hk1 hS => ?_)
  obtain ⟨hP1, hK1, hD1⟩ := hB
  rw [ht] at hP1
  have hK1 := va_K.moved hvm.symm hK1
  obtain ⟨hP, hD⟩ := va_join (wr := []) (w1 := [(h0, .inr (9, [.ref qm, .ref qt, .ref qw, .ref qc, .ref qb, .ref qg, .int 0, .int 0, .int 0, .int 0, .int 0]))]) hP hD [0] [] rfl rfl (by decide) (by decide) hk1 hFc hP1 hD1
  have hK := (hK.sub (tys' := []) [] rfl).app hK1
  generalize H1 = H at hP hS ⊢
  have hP : va_P (dC, dI) vwCl [(h0, .inr (9, [.ref qm, .ref qt, .ref qw, .ref qc, .ref qb, .ref qg, .int 0, .int 0, .int 0, .int 0, .int 0]))] H := hP
  have hD : va_D A [(h0, .inr (9, [.ref qm, .ref qt, .ref qw, .ref qc, .ref qb, .ref qg, .int 0, .int 0, .int 0, .int 0, .int 0]))] := hD
  have hK : va_K (dC, dI) vwCl [] s := hK
  refine W.widen (k := 0) (n := 0) (Nat.le_of_ble_eq_true rfl) (Nat.le_of_ble_eq_true rfl) ?_
  obtain rfl : r_4 = 0 := hw
  have hP9 := hP.sub (ws' := [(h0, .inr (9, [.ref qm, .ref qt, .ref qw, .ref qc, .ref qb, .ref qg, .int 0, .int 0, .int 0, .int 0, .int 0]))]) [0] rfl
  have hD9 := hD.sub (ws' := [(h0, .inr (9, [.ref qm, .ref qt, .ref qw, .ref qc, .ref qb, .ref qg, .int 0, .int 0, .int 0, .int 0, .int 0]))]) [0] (by decide) rfl
  have hK9 := hK.sub (tys' := []) [] rfl
  refine W.widen (k := 0) (n := 0) (Nat.le_of_ble_eq_true rfl) (Nat.le_of_ble_eq_true rfl) ?_
  exact W.iret (v := 0) hx hb hr (fun t ht hW => ⟨⟨0, (), rfl, rfl, ⟨by rw [ht]; exact hP9, va_K.moved hW.alike hK9, hD9⟩⟩, hS.F ht⟩) hS.2.2 dX7_many_111

def zs_c_X7_many_4 : List Cond := .code yX7_many cX7_many 2 (some .int) :: (([.code yX7_isWithin cX7_isWithin 3 (some .boolean), .methodLink RX7 49 yX7_isWithin, .static yX7_isWithin, .initialized RX7, .code yX7_require cX7_require 1 none, .methodLink RX7 53 yX7_require, .static yX7_require, .code yX7_countOfKind cX7_countOfKind 4 (some .int), .fieldLink RX7 148 "Haltingale" "machineCount" "I", .methodLink RX7 252 yX7_countOfKind, .instanceMethod yX7_countOfKind, .selects RX7 yX7_countOfKind yX7_countOfKind] : List Cond) ++ wsX70)
set_option maxHeartbeats 4000000 in
set_option maxRecDepth 100000 in
/-- many of 4 -/
theorem c_X7_many_4 (l : Launch) (hnt : l.stackTraces = false) (dC : Nat → ClassId) (dI : Nat → Nat → Nat) (a0 : Nat) (h0 : Nat) (qm : Nat) (qt : Nat) (qw : Nat) (qc : Nat) (qb : Nat) (qg : Nat) (sz : Nat)  : Met l yX7_many zs_c_X7_many_4 ({ frames := 1, cells := 0, slots := 0, locals := 23 }) (va_Pc [.ref h0, .int 4] (fun U => U.heap.size = sz ∧ va_P (dC, dI) vwCl [(h0, .inr (9, [.ref qm, .ref qt, .ref qw, .ref qc, .ref qb, .ref qg, .int 0, .int 0, .int 0, .int 0, .int 0]))] U.heap ∧ va_K (dC, dI) vwCl [] U ∧ va_D (fun _ => True) [(h0, .inr (9, [.ref qm, .ref qt, .ref qw, .ref qc, .ref qb, .ref qg, .int 0, .int 0, .int 0, .int 0, .int 0]))] ∧ zB a0 (va_A [(h0, .inr (9, [.ref qm, .ref qt, .ref qw, .ref qc, .ref qb, .ref qg, .int 0, .int 0, .int 0, .int 0, .int 0]))] sz) U U.heap)) (va_Qi (fun (r : Int32) (_ : Unit) => r = 0) (fun _ t => va_P (dC, dI) vwCl [(h0, .inr (9, [.ref qm, .ref qt, .ref qw, .ref qc, .ref qb, .ref qg, .int 0, .int 0, .int 0, .int 0, .int 0]))] t.heap ∧ va_K (dC, dI) vwCl [] t ∧ va_D (va_A [(h0, .inr (9, [.ref qm, .ref qt, .ref qw, .ref qc, .ref qb, .ref qg, .int 0, .int 0, .int 0, .int 0, .int 0]))] sz) [(h0, .inr (9, [.ref qm, .ref qt, .ref qw, .ref qc, .ref qb, .ref qg, .int 0, .int 0, .int 0, .int 0, .int 0]))]) (va_A [(h0, .inr (9, [.ref qm, .ref qt, .ref qw, .ref qc, .ref qb, .ref qg, .int 0, .int 0, .int 0, .int 0, .int 0]))] sz)) 0 0 (va_A [(h0, .inr (9, [.ref qm, .ref qt, .ref qw, .ref qc, .ref qb, .ref qg, .int 0, .int 0, .int 0, .int 0, .int 0]))] sz) := by
  refine Met.ofW (cc := cX7_many) (maxL := 2) (ret := (some .int)) (by decide) rfl ?_
  intro p e s m args below meth c s₁ B hml hv
  obtain ⟨rfl, hsz, hP, hK, hD0, hZ⟩ := hv
  have hx := B.exec
  have hb := B.bytes
  have hr := B.returns
  have hts := atoms_spec (ws := zs_c_X7_many_4) B.pre
  have hown : s.vm.findClass RX7 = some m.cls := findClass_of_methodNamed B.named
  have hlocks := B.notSynchronized
  subst hsz
  have hD := hD0.self (sz := s.heap.size)
  generalize hAe : va_A [(h0, .inr (9, [.ref qm, .ref qt, .ref qw, .ref qc, .ref qb, .ref qg, .int 0, .int 0, .int 0, .int 0, .int 0]))] s.heap.size = A at hD hZ ⊢
  have hA : ∀ q : Nat, s.heap.size ≤ q → A q := fun q h => by rw [← hAe]; exact Or.inr h
  have hS : va_S A s.heap s.heap [] := va_S.rf
  have hl := lv_entry ([.ref h0, .int 4]) (n := 2) (Nat.le_of_ble_eq_true rfl)
  rw [lg_entry_eq]
  generalize (lg_sl ([.ref h0, .int 4]) ++ List.replicate (2 - (lg_sl ([.ref h0, .int 4])).length) Slot.unset).toArray = ls at hl ⊢
  have hl : lv_has ls 2 [(0, .ref h0), (1, .int 4)] := hl
  refine lv_iload_n hx hb dX7_many_0 rfl (lv_at hl 1 rfl) ?_
  refine lv_iconst (v := 0) hx hb dX7_many_1 (by decide) ?_
  refine lv_bipush (v := 10) hx hb dX7_many_2 (by decide) ?_
  have hPc := hP.sub (ws' := []) [] rfl
  have hDc := hD.sub (ws' := []) [] (by decide) rfl
  have hKc := hK.sub (tys' := []) [] rfl
  have hFc := va_free (wc := []) hD hS hA [] rfl
  have hZc := ((hZ.kept hS.2.1).narrow hFc)
  refine va_calli (va_runS (As := [.int 4, .int 0, .int 10]) (rest := []) ⟨hx, hb, hml, hown, hts⟩ (c_X7_isWithin l hnt dC dI a0 4 0 10 s.heap.size ) (va_cwS 3 hts (goodIn_of _ (by decide +kernel)) rfl rfl rfl (by decide +kernel) ⟨Nat.le_of_ble_eq_true rfl, Nat.le_of_ble_eq_true rfl⟩) ⟨fun a U g mk q => by obtain ⟨q0, q1, qP, qK, qD, qZ⟩ := q; exact ⟨q0, q1, qP, va_K.moved (u := U) (U := U.calling g mk a) (Vm.Alike.refl U.vm) qK, qD, qZ.call⟩, fun U hU hW => ⟨rfl, by rw [hU], by rw [hU]; exact hPc, va_K.moved hW.alike hKc, hDc.weaken (fun _ _ _ _ => trivial), by rw [hU]; exact hZc.warm hW⟩⟩ rfl rfl hl.1 rfl (lv_room (Nat.le_of_ble_eq_true rfl)) dX7_many_4 ⟨Nat.le_of_ble_eq_true rfl, Nat.le_of_ble_eq_true rfl⟩) hS (fun q _ h => hFc q h) hFc (fun r_1 u t H1 locs ht hvm hw hB hz1 hk1 hS => ?_)
  obtain ⟨hP1, hK1, hD1⟩ := hB
  rw [ht] at hP1
  have hK1 := va_K.moved hvm.symm hK1
  obtain ⟨hP, hD⟩ := va_join (wr := [(h0, .inr (9, [.ref qm, .ref qt, .ref qw, .ref qc, .ref qb, .ref qg, .int 0, .int 0, .int 0, .int 0, .int 0]))]) (w1 := []) hP hD [] [0] rfl rfl (by decide) (by decide) hk1 hFc hP1 hD1
  have hK := (hK.sub (tys' := []) [] rfl).app hK1
  generalize H1 = H at hP hS ⊢
  have hP : va_P (dC, dI) vwCl [(h0, .inr (9, [.ref qm, .ref qt, .ref qw, .ref qc, .ref qb, .ref qg, .int 0, .int 0, .int 0, .int 0, .int 0]))] H := hP
  have hD : va_D A [(h0, .inr (9, [.ref qm, .ref qt, .ref qw, .ref qc, .ref qb, .ref qg, .int 0, .int 0, .int 0, .int 0, .int 0]))] := hD
  have hK : va_K (dC, dI) vwCl [] s := hK
  refine W.widen (k := 0) (n := 0) (Nat.le_of_ble_eq_true rfl) (Nat.le_of_ble_eq_true rfl) ?_
  obtain rfl : r_1 = 1 := hw.trans (by decide)
  have hPc := hP.sub (ws' := []) [] rfl
  have hDc := hD.sub (ws' := []) [] (by decide) rfl
  have hKc := hK.sub (tys' := []) [] rfl
  have hFc := va_free (wc := []) hD hS hA [] rfl
  have hZc := ((hZ.kept hS.2.1).narrow hFc)
  refine va_callv (va_runS (As := [.int 1]) (rest := []) ⟨hx, hb, hml, hown, hts⟩ (c_X7_require_ok l hnt dC dI a0  H.size ) (va_cwS 1 hts (goodIn_of _ (by decide +kernel)) rfl rfl rfl (by decide +kernel) ⟨Nat.le_of_ble_eq_true rfl, Nat.le_of_ble_eq_true rfl⟩) ⟨fun a U g mk q => by obtain ⟨q0, q1, qP, qK, qD, qZ⟩ := q; exact ⟨q0, q1, qP, va_K.moved (u := U) (U := U.calling g mk a) (Vm.Alike.refl U.vm) qK, qD, qZ.call⟩, fun U hU hW => ⟨rfl, by rw [hU], by rw [hU]; exact hPc, va_K.moved hW.alike hKc, hDc.weaken (fun _ _ _ _ => trivial), by rw [hU]; exact hZc.warm hW⟩⟩ rfl rfl hl.1 rfl (lv_room (Nat.le_of_ble_eq_true rfl)) dX7_many_7 ⟨Nat.le_of_ble_eq_true rfl, Nat.le_of_ble_eq_true rfl⟩) hS (fun q _ h => hFc q h) hFc (fun u t H1 locs ht hvm hw hB hz1 hk1 hS => ?_)
  obtain ⟨hP1, hK1, hD1⟩ := hB
  rw [ht] at hP1
  have hK1 := va_K.moved hvm.symm hK1
  obtain ⟨hP, hD⟩ := va_join (wr := [(h0, .inr (9, [.ref qm, .ref qt, .ref qw, .ref qc, .ref qb, .ref qg, .int 0, .int 0, .int 0, .int 0, .int 0]))]) (w1 := []) hP hD [] [0] rfl rfl (by decide) (by decide) hk1 hFc hP1 hD1
  have hK := (hK.sub (tys' := []) [] rfl).app hK1
  generalize H1 = H at hP hS ⊢
  have hP : va_P (dC, dI) vwCl [(h0, .inr (9, [.ref qm, .ref qt, .ref qw, .ref qc, .ref qb, .ref qg, .int 0, .int 0, .int 0, .int 0, .int 0]))] H := hP
  have hD : va_D A [(h0, .inr (9, [.ref qm, .ref qt, .ref qw, .ref qc, .ref qb, .ref qg, .int 0, .int 0, .int 0, .int 0, .int 0]))] := hD
  have hK : va_K (dC, dI) vwCl [] s := hK
  refine W.widen (k := 0) (n := 0) (Nat.le_of_ble_eq_true rfl) (Nat.le_of_ble_eq_true rfl) ?_
  refine lv_iload_n hx hb dX7_many_10 rfl (lv_at hl 1 rfl) ?_
  refine lv_tableIn (tgt := 104) hx hb dX7_many_11 (by decide) (by decide) rfl (by decide) ?_
  refine lv_aload_n hx hb dX7_many_104 rfl (lv_at hl 0 rfl) ?_
  refine lv_iload_n hx hb dX7_many_105 rfl (lv_at hl 1 rfl) ?_
  refine lv_iconst (v := 2) hx hb dX7_many_106 (by decide) ?_
  refine lv_isub hx hb dX7_many_107 ?_
  refine lv_topi (fun x_3 ex_3 => ?_)
  obtain rfl : x_3 = 2 := ex_3.trans (by decide)
  have hPc := hP.sub (ws' := [(h0, .inr (9, [.ref qm, .ref qt, .ref qw, .ref qc, .ref qb, .ref qg, .int 0, .int 0, .int 0, .int 0, .int 0]))]) [0] rfl
  have hDc := hD.sub (ws' := [(h0, .inr (9, [.ref qm, .ref qt, .ref qw, .ref qc, .ref qb, .ref qg, .int 0, .int 0, .int 0, .int 0, .int 0]))]) [0] (by decide) rfl
  have hKc := hK.sub (tys' := []) [] rfl
  have hFc := va_free (wc := [(h0, .inr (9, [.ref qm, .ref qt, .ref qw, .ref qc, .ref qb, .ref qg, .int 0, .int 0, .int 0, .int 0, .int 0]))]) hD hS hA [0] rfl
  have hZc := ((hZ.kept hS.2.1).narrow hFc)
  refine va_calli (va_runV (As := [.int 2]) (rest := []) ⟨hx, hb, hml, hown, hts⟩ (c_X7_countOfKind l hnt dC dI a0 h0 qm qt qw qc qb qg 2 H.size ) (cwV 1 hts (goodIn_of _ (by decide +kernel)) rfl rfl rfl (by decide +kernel) ⟨Nat.le_of_ble_eq_true rfl, Nat.le_of_ble_eq_true rfl⟩) ⟨fun a U g mk q => by obtain ⟨q0, q1, qP, qK, qD, qZ⟩ := q; exact ⟨q0, q1, qP, va_K.moved (u := U) (U := U.calling g mk a) (Vm.Alike.refl U.vm) qK, qD, qZ.call⟩, va_recv hKc hPc (ci := 9) (q0 := 0) rfl rfl, fun U hU hW => ⟨rfl, by rw [hU], by rw [hU]; exact hPc, va_K.moved hW.alike hKc, hDc.weaken (fun _ _ _ _ => trivial), by rw [hU]; exact hZc.warm hW⟩⟩ rfl rfl hl.1 rfl (lv_room (Nat.le_of_ble_eq_true rfl)) dX7_many_108 ⟨Nat.le_of_ble_eq_true rfl, Nat.le_of_ble_eq_true rfl⟩) hS (fun q _ h => hFc q h) hFc (fun r_4 u t H1 locs ht hvm hw hB hz1 hk1 hS => ?_)
  obtain ⟨hP1, hK1, hD1⟩ := hB
  rw [ht] at hP1
  have hK1 := va_K.moved hvm.symm hK1
  obtain ⟨hP, hD⟩ := va_join (wr := []) (w1 := [(h0, .inr (9, [.ref qm, .ref qt, .ref qw, .ref qc, .ref qb, .ref qg, .int 0, .int 0, .int 0, .int 0, .int 0]))]) hP hD [0] [] rfl rfl (by decide) (by decide) hk1 hFc hP1 hD1
  have hK := (hK.sub (tys' := []) [] rfl).app hK1
  generalize H1 = H at hP hS ⊢
  have hP : va_P (dC, dI) vwCl [(h0, .inr (9, [.ref qm, .ref qt, .ref qw, .ref qc, .ref qb, .ref qg, .int 0, .int 0, .int 0, .int 0, .int 0]))] H := hP
  have hD : va_D A [(h0, .inr (9, [.ref qm, .ref qt, .ref qw, .ref qc, .ref qb, .ref qg, .int 0, .int 0, .int 0, .int 0, .int 0]))] := hD
  have hK : va_K (dC, dI) vwCl [] s := hK
  refine W.widen (k := 0) (n := 0) (Nat.le_of_ble_eq_true rfl) (Nat.le_of_ble_eq_true rfl) ?_
  obtain rfl : r_4 = 0 := hw
  have hP9 := hP.sub (ws' := [(h0, .inr (9, [.ref qm, .ref qt, .ref qw, .ref qc, .ref qb, .ref qg, .int 0, .int 0, .int 0, .int 0, .int 0]))]) [0] rfl
  have hD9 := hD.sub (ws' := [(h0, .inr (9, [.ref qm, .ref qt, .ref qw, .ref qc, .ref qb, .ref qg, .int 0, .int 0, .int 0, .int 0, .int 0]))]) [0] (by decide) rfl
  have hK9 := hK.sub (tys' := []) [] rfl
  refine W.widen (k := 0) (n := 0) (Nat.le_of_ble_eq_true rfl) (Nat.le_of_ble_eq_true rfl) ?_
  exact W.iret (v := 0) hx hb hr (fun t ht hW => ⟨⟨0, (), rfl, rfl, ⟨by rw [ht]; exact hP9, va_K.moved hW.alike hK9, hD9⟩⟩, hS.F ht⟩) hS.2.2 dX7_many_111

def zs_c_X7_many_5 : List Cond := .code yX7_many cX7_many 2 (some .int) :: (([.code yX7_isWithin cX7_isWithin 3 (some .boolean), .methodLink RX7 49 yX7_isWithin, .static yX7_isWithin, .initialized RX7, .code yX7_require cX7_require 1 none, .methodLink RX7 53 yX7_require, .static yX7_require, .code yX7_countOfKind cX7_countOfKind 4 (some .int), .fieldLink RX7 148 "Haltingale" "machineCount" "I", .methodLink RX7 252 yX7_countOfKind, .instanceMethod yX7_countOfKind, .selects RX7 yX7_countOfKind yX7_countOfKind] : List Cond) ++ wsX70)
set_option maxHeartbeats 4000000 in
set_option maxRecDepth 100000 in
/-- many of 5 -/
theorem c_X7_many_5 (l : Launch) (hnt : l.stackTraces = false) (dC : Nat → ClassId) (dI : Nat → Nat → Nat) (a0 : Nat) (h0 : Nat) (qm : Nat) (qt : Nat) (qw : Nat) (qc : Nat) (qb : Nat) (qg : Nat) (sz : Nat)  : Met l yX7_many zs_c_X7_many_5 ({ frames := 1, cells := 0, slots := 0, locals := 23 }) (va_Pc [.ref h0, .int 5] (fun U => U.heap.size = sz ∧ va_P (dC, dI) vwCl [(h0, .inr (9, [.ref qm, .ref qt, .ref qw, .ref qc, .ref qb, .ref qg, .int 0, .int 0, .int 0, .int 0, .int 0]))] U.heap ∧ va_K (dC, dI) vwCl [] U ∧ va_D (fun _ => True) [(h0, .inr (9, [.ref qm, .ref qt, .ref qw, .ref qc, .ref qb, .ref qg, .int 0, .int 0, .int 0, .int 0, .int 0]))] ∧ zB a0 (va_A [(h0, .inr (9, [.ref qm, .ref qt, .ref qw, .ref qc, .ref qb, .ref qg, .int 0, .int 0, .int 0, .int 0, .int 0]))] sz) U U.heap)) (va_Qi (fun (r : Int32) (_ : Unit) => r = 0) (fun _ t => va_P (dC, dI) vwCl [(h0, .inr (9, [.ref qm, .ref qt, .ref qw, .ref qc, .ref qb, .ref qg, .int 0, .int 0, .int 0, .int 0, .int 0]))] t.heap ∧ va_K (dC, dI) vwCl [] t ∧ va_D (va_A [(h0, .inr (9, [.ref qm, .ref qt, .ref qw, .ref qc, .ref qb, .ref qg, .int 0, .int 0, .int 0, .int 0, .int 0]))] sz) [(h0, .inr (9, [.ref qm, .ref qt, .ref qw, .ref qc, .ref qb, .ref qg, .int 0, .int 0, .int 0, .int 0, .int 0]))]) (va_A [(h0, .inr (9, [.ref qm, .ref qt, .ref qw, .ref qc, .ref qb, .ref qg, .int 0, .int 0, .int 0, .int 0, .int 0]))] sz)) 0 0 (va_A [(h0, .inr (9, [.ref qm, .ref qt, .ref qw, .ref qc, .ref qb, .ref qg, .int 0, .int 0, .int 0, .int 0, .int 0]))] sz) := by
  refine Met.ofW (cc := cX7_many) (maxL := 2) (ret := (some .int)) (by decide) rfl ?_
  intro p e s m args below meth c s₁ B hml hv
  obtain ⟨rfl, hsz, hP, hK, hD0, hZ⟩ := hv
  have hx := B.exec
  have hb := B.bytes
  have hr := B.returns
  have hts := atoms_spec (ws := zs_c_X7_many_5) B.pre
  have hown : s.vm.findClass RX7 = some m.cls := findClass_of_methodNamed B.named
  have hlocks := B.notSynchronized
  subst hsz
  have hD := hD0.self (sz := s.heap.size)
  generalize hAe : va_A [(h0, .inr (9, [.ref qm, .ref qt, .ref qw, .ref qc, .ref qb, .ref qg, .int 0, .int 0, .int 0, .int 0, .int 0]))] s.heap.size = A at hD hZ ⊢
  have hA : ∀ q : Nat, s.heap.size ≤ q → A q := fun q h => by rw [← hAe]; exact Or.inr h
  have hS : va_S A s.heap s.heap [] := va_S.rf
  have hl := lv_entry ([.ref h0, .int 5]) (n := 2) (Nat.le_of_ble_eq_true rfl)
  rw [lg_entry_eq]
  generalize (lg_sl ([.ref h0, .int 5]) ++ List.replicate (2 - (lg_sl ([.ref h0, .int 5])).length) Slot.unset).toArray = ls at hl ⊢
  have hl : lv_has ls 2 [(0, .ref h0), (1, .int 5)] := hl
  refine lv_iload_n hx hb dX7_many_0 rfl (lv_at hl 1 rfl) ?_
  refine lv_iconst (v := 0) hx hb dX7_many_1 (by decide) ?_
  refine lv_bipush (v := 10) hx hb dX7_many_2 (by decide) ?_
  have hPc := hP.sub (ws' := []) [] rfl
  have hDc := hD.sub (ws' := []) [] (by decide) rfl
  have hKc := hK.sub (tys' := []) [] rfl
  have hFc := va_free (wc := []) hD hS hA [] rfl
  have hZc := ((hZ.kept hS.2.1).narrow hFc)
  refine va_calli (va_runS (As := [.int 5, .int 0, .int 10]) (rest := []) ⟨hx, hb, hml, hown, hts⟩ (c_X7_isWithin l hnt dC dI a0 5 0 10 s.heap.size ) (va_cwS 3 hts (goodIn_of _ (by decide +kernel)) rfl rfl rfl (by decide +kernel) ⟨Nat.le_of_ble_eq_true rfl, Nat.le_of_ble_eq_true rfl⟩) ⟨fun a U g mk q => by obtain ⟨q0, q1, qP, qK, qD, qZ⟩ := q; exact ⟨q0, q1, qP, va_K.moved (u := U) (U := U.calling g mk a) (Vm.Alike.refl U.vm) qK, qD, qZ.call⟩, fun U hU hW => ⟨rfl, by rw [hU], by rw [hU]; exact hPc, va_K.moved hW.alike hKc, hDc.weaken (fun _ _ _ _ => trivial), by rw [hU]; exact hZc.warm hW⟩⟩ rfl rfl hl.1 rfl (lv_room (Nat.le_of_ble_eq_true rfl)) dX7_many_4 ⟨Nat.le_of_ble_eq_true rfl, Nat.le_of_ble_eq_true rfl⟩) hS (fun q _ h => hFc q h) hFc (fun r_1 u t H1 locs ht hvm hw hB hz1 hk1 hS => ?_)
  obtain ⟨hP1, hK1, hD1⟩ := hB
  rw [ht] at hP1
  have hK1 := va_K.moved hvm.symm hK1
  obtain ⟨hP, hD⟩ := va_join (wr := [(h0, .inr (9, [.ref qm, .ref qt, .ref qw, .ref qc, .ref qb, .ref qg, .int 0, .int 0, .int 0, .int 0, .int 0]))]) (w1 := []) hP hD [] [0] rfl rfl (by decide) (by decide) hk1 hFc hP1 hD1
  have hK := (hK.sub (tys' := []) [] rfl).app hK1
  generalize H1 = H at hP hS ⊢
  have hP : va_P (dC, dI) vwCl [(h0, .inr (9, [.ref qm, .ref qt, .ref qw, .ref qc, .ref qb, .ref qg, .int 0, .int 0, .int 0, .int 0, .int 0]))] H := hP
  have hD : va_D A [(h0, .inr (9, [.ref qm, .ref qt, .ref qw, .ref qc, .ref qb, .ref qg, .int 0, .int 0, .int 0, .int 0, .int 0]))] := hD
  have hK : va_K (dC, dI) vwCl [] s := hK
  refine W.widen (k := 0) (n := 0) (Nat.le_of_ble_eq_true rfl) (Nat.le_of_ble_eq_true rfl) ?_
  obtain rfl : r_1 = 1 := hw.trans (by decide)
  have hPc := hP.sub (ws' := []) [] rfl
  have hDc := hD.sub (ws' := []) [] (by decide) rfl
  have hKc := hK.sub (tys' := []) [] rfl
  have hFc := va_free (wc := []) hD hS hA [] rfl
  have hZc := ((hZ.kept hS.2.1).narrow hFc)
  refine va_callv (va_runS (As := [.int 1]) (rest := []) ⟨hx, hb, hml, hown, hts⟩ (c_X7_require_ok l hnt dC dI a0  H.size ) (va_cwS 1 hts (goodIn_of _ (by decide +kernel)) rfl rfl rfl (by decide +kernel) ⟨Nat.le_of_ble_eq_true rfl, Nat.le_of_ble_eq_true rfl⟩) ⟨fun a U g mk q => by obtain ⟨q0, q1, qP, qK, qD, qZ⟩ := q; exact ⟨q0, q1, qP, va_K.moved (u := U) (U := U.calling g mk a) (Vm.Alike.refl U.vm) qK, qD, qZ.call⟩, fun U hU hW => ⟨rfl, by rw [hU], by rw [hU]; exact hPc, va_K.moved hW.alike hKc, hDc.weaken (fun _ _ _ _ => trivial), by rw [hU]; exact hZc.warm hW⟩⟩ rfl rfl hl.1 rfl (lv_room (Nat.le_of_ble_eq_true rfl)) dX7_many_7 ⟨Nat.le_of_ble_eq_true rfl, Nat.le_of_ble_eq_true rfl⟩) hS (fun q _ h => hFc q h) hFc (fun u t H1 locs ht hvm hw hB hz1 hk1 hS => ?_)
  obtain ⟨hP1, hK1, hD1⟩ := hB
  rw [ht] at hP1
  have hK1 := va_K.moved hvm.symm hK1
  obtain ⟨hP, hD⟩ := va_join (wr := [(h0, .inr (9, [.ref qm, .ref qt, .ref qw, .ref qc, .ref qb, .ref qg, .int 0, .int 0, .int 0, .int 0, .int 0]))]) (w1 := []) hP hD [] [0] rfl rfl (by decide) (by decide) hk1 hFc hP1 hD1
  have hK := (hK.sub (tys' := []) [] rfl).app hK1
  generalize H1 = H at hP hS ⊢
  have hP : va_P (dC, dI) vwCl [(h0, .inr (9, [.ref qm, .ref qt, .ref qw, .ref qc, .ref qb, .ref qg, .int 0, .int 0, .int 0, .int 0, .int 0]))] H := hP
  have hD : va_D A [(h0, .inr (9, [.ref qm, .ref qt, .ref qw, .ref qc, .ref qb, .ref qg, .int 0, .int 0, .int 0, .int 0, .int 0]))] := hD
  have hK : va_K (dC, dI) vwCl [] s := hK
  refine W.widen (k := 0) (n := 0) (Nat.le_of_ble_eq_true rfl) (Nat.le_of_ble_eq_true rfl) ?_
  refine lv_iload_n hx hb dX7_many_10 rfl (lv_at hl 1 rfl) ?_
  refine lv_tableIn (tgt := 104) hx hb dX7_many_11 (by decide) (by decide) rfl (by decide) ?_
  refine lv_aload_n hx hb dX7_many_104 rfl (lv_at hl 0 rfl) ?_
  refine lv_iload_n hx hb dX7_many_105 rfl (lv_at hl 1 rfl) ?_
  refine lv_iconst (v := 2) hx hb dX7_many_106 (by decide) ?_
  refine lv_isub hx hb dX7_many_107 ?_
  refine lv_topi (fun x_3 ex_3 => ?_)
  obtain rfl : x_3 = 3 := ex_3.trans (by decide)
  have hPc := hP.sub (ws' := [(h0, .inr (9, [.ref qm, .ref qt, .ref qw, .ref qc, .ref qb, .ref qg, .int 0, .int 0, .int 0, .int 0, .int 0]))]) [0] rfl
  have hDc := hD.sub (ws' := [(h0, .inr (9, [.ref qm, .ref qt, .ref qw, .ref qc, .ref qb, .ref qg, .int 0, .int 0, .int 0, .int 0, .int 0]))]) [0] (by decide) rfl
  have hKc := hK.sub (tys' := []) [] rfl
  have hFc := va_free (wc := [(h0, .inr (9, [.ref qm, .ref qt, .ref qw, .ref qc, .ref qb, .ref qg, .int 0, .int 0, .int 0, .int 0, .int 0]))]) hD hS hA [0] rfl
  have hZc := ((hZ.kept hS.2.1).narrow hFc)
  refine va_calli (va_runV (As := [.int 3]) (rest := []) ⟨hx, hb, hml, hown, hts⟩ (c_X7_countOfKind l hnt dC dI a0 h0 qm qt qw qc qb qg 3 H.size ) (cwV 1 hts (goodIn_of _ (by decide +kernel)) rfl rfl rfl (by decide +kernel) ⟨Nat.le_of_ble_eq_true rfl, Nat.le_of_ble_eq_true rfl⟩) ⟨fun a U g mk q => by obtain ⟨q0, q1, qP, qK, qD, qZ⟩ := q; exact ⟨q0, q1, qP, va_K.moved (u := U) (U := U.calling g mk a) (Vm.Alike.refl U.vm) qK, qD, qZ.call⟩, va_recv hKc hPc (ci := 9) (q0 := 0) rfl rfl, fun U hU hW => ⟨rfl, by rw [hU], by rw [hU]; exact hPc, va_K.moved hW.alike hKc, hDc.weaken (fun _ _ _ _ => trivial), by rw [hU]; exact hZc.warm hW⟩⟩ rfl rfl hl.1 rfl (lv_room (Nat.le_of_ble_eq_true rfl)) dX7_many_108 ⟨Nat.le_of_ble_eq_true rfl, Nat.le_of_ble_eq_true rfl⟩) hS (fun q _ h => hFc q h) hFc (fun r_4 u t H1 locs ht hvm hw hB hz1 hk1 hS => ?_)
  obtain ⟨hP1, hK1, hD1⟩ := hB
  rw [ht] at hP1
  have hK1 := va_K.moved hvm.symm hK1
  obtain ⟨hP, hD⟩ := va_join (wr := []) (w1 := [(h0, .inr (9, [.ref qm, .ref qt, .ref qw, .ref qc, .ref qb, .ref qg, .int 0, .int 0, .int 0, .int 0, .int 0]))]) hP hD [0] [] rfl rfl (by decide) (by decide) hk1 hFc hP1 hD1
  have hK := (hK.sub (tys' := []) [] rfl).app hK1
  generalize H1 = H at hP hS ⊢
  have hP : va_P (dC, dI) vwCl [(h0, .inr (9, [.ref qm, .ref qt, .ref qw, .ref qc, .ref qb, .ref qg, .int 0, .int 0, .int 0, .int 0, .int 0]))] H := hP
  have hD : va_D A [(h0, .inr (9, [.ref qm, .ref qt, .ref qw, .ref qc, .ref qb, .ref qg, .int 0, .int 0, .int 0, .int 0, .int 0]))] := hD
  have hK : va_K (dC, dI) vwCl [] s := hK
  refine W.widen (k := 0) (n := 0) (Nat.le_of_ble_eq_true rfl) (Nat.le_of_ble_eq_true rfl) ?_
  obtain rfl : r_4 = 0 := hw
  have hP9 := hP.sub (ws' := [(h0, .inr (9, [.ref qm, .ref qt, .ref qw, .ref qc, .ref qb, .ref qg, .int 0, .int 0, .int 0, .int 0, .int 0]))]) [0] rfl
  have hD9 := hD.sub (ws' := [(h0, .inr (9, [.ref qm, .ref qt, .ref qw, .ref qc, .ref qb, .ref qg, .int 0, .int 0, .int 0, .int 0, .int 0]))]) [0] (by decide) rfl
  have hK9 := hK.sub (tys' := []) [] rfl
  refine W.widen (k := 0) (n := 0) (Nat.le_of_ble_eq_true rfl) (Nat.le_of_ble_eq_true rfl) ?_
  exact W.iret (v := 0) hx hb hr (fun t ht hW => ⟨⟨0, (), rfl, rfl, ⟨by rw [ht]; exact hP9, va_K.moved hW.alike hK9, hD9⟩⟩, hS.F ht⟩) hS.2.2 dX7_many_111

def zs_c_X7_many_6 : List Cond := .code yX7_many cX7_many 2 (some .int) :: (([.code yX7_isWithin cX7_isWithin 3 (some .boolean), .methodLink RX7 49 yX7_isWithin, .static yX7_isWithin, .initialized RX7, .code yX7_require cX7_require 1 none, .methodLink RX7 53 yX7_require, .static yX7_require, .fieldLink RX7 122 "Haltingale" "tagCount" "I"] : List Cond) ++ wsX70)
set_option maxHeartbeats 4000000 in
set_option maxRecDepth 100000 in
/-- many of 6 -/
theorem c_X7_many_6 (l : Launch) (hnt : l.stackTraces = false) (dC : Nat → ClassId) (dI : Nat → Nat → Nat) (a0 : Nat) (h0 : Nat) (qm : Nat) (qt : Nat) (qw : Nat) (qc : Nat) (qb : Nat) (qg : Nat) (sz : Nat)  : Met l yX7_many zs_c_X7_many_6 ({ frames := 1, cells := 0, slots := 0, locals := 22 }) (va_Pc [.ref h0, .int 6] (fun U => U.heap.size = sz ∧ va_P (dC, dI) vwCl [(h0, .inr (9, [.ref qm, .ref qt, .ref qw, .ref qc, .ref qb, .ref qg, .int 0, .int 0, .int 0, .int 0, .int 0]))] U.heap ∧ va_K (dC, dI) vwCl [] U ∧ va_D (fun _ => True) [(h0, .inr (9, [.ref qm, .ref qt, .ref qw, .ref qc, .ref qb, .ref qg, .int 0, .int 0, .int 0, .int 0, .int 0]))] ∧ zB a0 (va_A [(h0, .inr (9, [.ref qm, .ref qt, .ref qw, .ref qc, .ref qb, .ref qg, .int 0, .int 0, .int 0, .int 0, .int 0]))] sz) U U.heap)) (va_Qi (fun (r : Int32) (_ : Unit) => r = 0) (fun _ t => va_P (dC, dI) vwCl [(h0, .inr (9, [.ref qm, .ref qt, .ref qw, .ref qc, .ref qb, .ref qg, .int 0, .int 0, .int 0, .int 0, .int 0]))] t.heap ∧ va_K (dC, dI) vwCl [] t ∧ va_D (va_A [(h0, .inr (9, [.ref qm, .ref qt, .ref qw, .ref qc, .ref qb, .ref qg, .int 0, .int 0, .int 0, .int 0, .int 0]))] sz) [(h0, .inr (9, [.ref qm, .ref qt, .ref qw, .ref qc, .ref qb, .ref qg, .int 0, .int 0, .int 0, .int 0, .int 0]))]) (va_A [(h0, .inr (9, [.ref qm, .ref qt, .ref qw, .ref qc, .ref qb, .ref qg, .int 0, .int 0, .int 0, .int 0, .int 0]))] sz)) 0 0 (va_A [(h0, .inr (9, [.ref qm, .ref qt, .ref qw, .ref qc, .ref qb, .ref qg, .int 0, .int 0, .int 0, .int 0, .int 0]))] sz) := by
  refine Met.ofW (cc := cX7_many) (maxL := 2) (ret := (some .int)) (by decide) rfl ?_
  intro p e s m args below meth c s₁ B hml hv
  obtain ⟨rfl, hsz, hP, hK, hD0, hZ⟩ := hv
  have hx := B.exec
  have hb := B.bytes
  have hr := B.returns
  have hts := atoms_spec (ws := zs_c_X7_many_6) B.pre
  have hown : s.vm.findClass RX7 = some m.cls := findClass_of_methodNamed B.named
  have hlocks := B.notSynchronized
  have hiX7 : ∀ w ∈ wsX70, w ∈ zs_c_X7_many_6 := by decide +kernel
  subst hsz
  have hD := hD0.self (sz := s.heap.size)
  generalize hAe : va_A [(h0, .inr (9, [.ref qm, .ref qt, .ref qw, .ref qc, .ref qb, .ref qg, .int 0, .int 0, .int 0, .int 0, .int 0]))] s.heap.size = A at hD hZ ⊢
  have hA : ∀ q : Nat, s.heap.size ≤ q → A q := fun q h => by rw [← hAe]; exact Or.inr h
  have hS : va_S A s.heap s.heap [] := va_S.rf
  have hl := lv_entry ([.ref h0, .int 6]) (n := 2) (Nat.le_of_ble_eq_true rfl)
  rw [lg_entry_eq]
  generalize (lg_sl ([.ref h0, .int 6]) ++ List.replicate (2 - (lg_sl ([.ref h0, .int 6])).length) Slot.unset).toArray = ls at hl ⊢
  have hl : lv_has ls 2 [(0, .ref h0), (1, .int 6)] := hl
  refine lv_iload_n hx hb dX7_many_0 rfl (lv_at hl 1 rfl) ?_
  refine lv_iconst (v := 0) hx hb dX7_many_1 (by decide) ?_
  refine lv_bipush (v := 10) hx hb dX7_many_2 (by decide) ?_
  have hPc := hP.sub (ws' := []) [] rfl
  have hDc := hD.sub (ws' := []) [] (by decide) rfl
  have hKc := hK.sub (tys' := []) [] rfl
  have hFc := va_free (wc := []) hD hS hA [] rfl
  have hZc := ((hZ.kept hS.2.1).narrow hFc)
  refine va_calli (va_runS (As := [.int 6, .int 0, .int 10]) (rest := []) ⟨hx, hb, hml, hown, hts⟩ (c_X7_isWithin l hnt dC dI a0 6 0 10 s.heap.size ) (va_cwS 3 hts (goodIn_of _ (by decide +kernel)) rfl rfl rfl (by decide +kernel) ⟨Nat.le_of_ble_eq_true rfl, Nat.le_of_ble_eq_true rfl⟩) ⟨fun a U g mk q => by obtain ⟨q0, q1, qP, qK, qD, qZ⟩ := q; exact ⟨q0, q1, qP, va_K.moved (u := U) (U := U.calling g mk a) (Vm.Alike.refl U.vm) qK, qD, qZ.call⟩, fun U hU hW => ⟨rfl, by rw [hU], by rw [hU]; exact hPc, va_K.moved hW.alike hKc, hDc.weaken (fun _ _ _ _ => trivial), by rw [hU]; exact hZc.warm hW⟩⟩ rfl rfl hl.1 rfl (lv_room (Nat.le_of_ble_eq_true rfl)) dX7_many_4 ⟨Nat.le_of_ble_eq_true rfl, Nat.le_of_ble_eq_true rfl⟩) hS (fun q _ h => hFc q h) hFc (fun r_1 u t H1 locs ht hvm hw hB hz1 hk1 hS => ?_)
  obtain ⟨hP1, hK1, hD1⟩ := hB
  rw [ht] at hP1
  have hK1 := va_K.moved hvm.symm hK1
  obtain ⟨hP, hD⟩ := va_join (wr := [(h0, .inr (9, [.ref qm, .ref qt, .ref qw, .ref qc, .ref qb, .ref qg, .int 0, .int 0, .int 0, .int 0, .int 0]))]) (w1 := []) hP hD [] [0] rfl rfl (by decide) (by decide) hk1 hFc hP1 hD1
  have hK := (hK.sub (tys' := []) [] rfl).app hK1
  generalize H1 = H at hP hS ⊢
  have hP : va_P (dC, dI) vwCl [(h0, .inr (9, [.ref qm, .ref qt, .ref qw, .ref qc, .ref qb, .ref qg, .int 0, .int 0, .int 0, .int 0, .int 0]))] H := hP
  have hD : va_D A [(h0, .inr (9, [.ref qm, .ref qt, .ref qw, .ref qc, .ref qb, .ref qg, .int 0, .int 0, .int 0, .int 0, .int 0]))] := hD
  have hK : va_K (dC, dI) vwCl [] s := hK
  refine W.widen (k := 0) (n := 0) (Nat.le_of_ble_eq_true rfl) (Nat.le_of_ble_eq_true rfl) ?_
  obtain rfl : r_1 = 1 := hw.trans (by decide)
  have hPc := hP.sub (ws' := []) [] rfl
  have hDc := hD.sub (ws' := []) [] (by decide) rfl
  have hKc := hK.sub (tys' := []) [] rfl
  have hFc := va_free (wc := []) hD hS hA [] rfl
  have hZc := ((hZ.kept hS.2.1).narrow hFc)
  refine va_callv (va_runS (As := [.int 1]) (rest := []) ⟨hx, hb, hml, hown, hts⟩ (c_X7_require_ok l hnt dC dI a0  H.size ) (va_cwS 1 hts (goodIn_of _ (by decide +kernel)) rfl rfl rfl (by decide +kernel) ⟨Nat.le_of_ble_eq_true rfl, Nat.le_of_ble_eq_true rfl⟩) ⟨fun a U g mk q => by obtain ⟨q0, q1, qP, qK, qD, qZ⟩ := q; exact ⟨q0, q1, qP, va_K.moved (u := U) (U := U.calling g mk a) (Vm.Alike.refl U.vm) qK, qD, qZ.call⟩, fun U hU hW => ⟨rfl, by rw [hU], by rw [hU]; exact hPc, va_K.moved hW.alike hKc, hDc.weaken (fun _ _ _ _ => trivial), by rw [hU]; exact hZc.warm hW⟩⟩ rfl rfl hl.1 rfl (lv_room (Nat.le_of_ble_eq_true rfl)) dX7_many_7 ⟨Nat.le_of_ble_eq_true rfl, Nat.le_of_ble_eq_true rfl⟩) hS (fun q _ h => hFc q h) hFc (fun u t H1 locs ht hvm hw hB hz1 hk1 hS => ?_)
  obtain ⟨hP1, hK1, hD1⟩ := hB
  rw [ht] at hP1
  have hK1 := va_K.moved hvm.symm hK1
  obtain ⟨hP, hD⟩ := va_join (wr := [(h0, .inr (9, [.ref qm, .ref qt, .ref qw, .ref qc, .ref qb, .ref qg, .int 0, .int 0, .int 0, .int 0, .int 0]))]) (w1 := []) hP hD [] [0] rfl rfl (by decide) (by decide) hk1 hFc hP1 hD1
  have hK := (hK.sub (tys' := []) [] rfl).app hK1
  generalize H1 = H at hP hS ⊢
  have hP : va_P (dC, dI) vwCl [(h0, .inr (9, [.ref qm, .ref qt, .ref qw, .ref qc, .ref qb, .ref qg, .int 0, .int 0, .int 0, .int 0, .int 0]))] H := hP
  have hD : va_D A [(h0, .inr (9, [.ref qm, .ref qt, .ref qw, .ref qc, .ref qb, .ref qg, .int 0, .int 0, .int 0, .int 0, .int 0]))] := hD
  have hK : va_K (dC, dI) vwCl [] s := hK
  refine W.widen (k := 0) (n := 0) (Nat.le_of_ble_eq_true rfl) (Nat.le_of_ble_eq_true rfl) ?_
  refine lv_iload_n hx hb dX7_many_10 rfl (lv_at hl 1 rfl) ?_
  refine lv_tableIn (tgt := 79) hx hb dX7_many_11 (by decide) (by decide) rfl (by decide) ?_
  refine lv_aload_n hx hb dX7_many_79 rfl (lv_at hl 0 rfl) ?_
  refine va_get (D := (dC, dI)) (ci := 9) (v := .int 0) (C := RX7) (T := TX7) (N := 11) hx hb hts hiX7 hown hK hP 0 rfl rfl 7 (by decide) (hts (.fieldLink RX7 122 "Haltingale" "tagCount" "I") (by decide +kernel)) (fun _ h9 => h9) rfl dX7_many_80 ?_
  have hP9 := hP.sub (ws' := [(h0, .inr (9, [.ref qm, .ref qt, .ref qw, .ref qc, .ref qb, .ref qg, .int 0, .int 0, .int 0, .int 0, .int 0]))]) [0] rfl
  have hD9 := hD.sub (ws' := [(h0, .inr (9, [.ref qm, .ref qt, .ref qw, .ref qc, .ref qb, .ref qg, .int 0, .int 0, .int 0, .int 0, .int 0]))]) [0] (by decide) rfl
  have hK9 := hK.sub (tys' := []) [] rfl
  refine W.widen (k := 0) (n := 0) (Nat.le_of_ble_eq_true rfl) (Nat.le_of_ble_eq_true rfl) ?_
  exact W.iret (v := 0) hx hb hr (fun t ht hW => ⟨⟨0, (), rfl, rfl, ⟨by rw [ht]; exact hP9, va_K.moved hW.alike hK9, hD9⟩⟩, hS.F ht⟩) hS.2.2 dX7_many_83

def zs_c_X7_many_7 : List Cond := .code yX7_many cX7_many 2 (some .int) :: (([.code yX7_isWithin cX7_isWithin 3 (some .boolean), .methodLink RX7 49 yX7_isWithin, .static yX7_isWithin, .initialized RX7, .code yX7_require cX7_require 1 none, .methodLink RX7 53 yX7_require, .static yX7_require, .fieldLink RX7 136 "Haltingale" "givenCount" "I"] : List Cond) ++ wsX70)
set_option maxHeartbeats 4000000 in
set_option maxRecDepth 100000 in
/-- many of 7 -/
theorem c_X7_many_7 (l : Launch) (hnt : l.stackTraces = false) (dC : Nat → ClassId) (dI : Nat → Nat → Nat) (a0 : Nat) (h0 : Nat) (qm : Nat) (qt : Nat) (qw : Nat) (qc : Nat) (qb : Nat) (qg : Nat) (sz : Nat)  : Met l yX7_many zs_c_X7_many_7 ({ frames := 1, cells := 0, slots := 0, locals := 22 }) (va_Pc [.ref h0, .int 7] (fun U => U.heap.size = sz ∧ va_P (dC, dI) vwCl [(h0, .inr (9, [.ref qm, .ref qt, .ref qw, .ref qc, .ref qb, .ref qg, .int 0, .int 0, .int 0, .int 0, .int 0]))] U.heap ∧ va_K (dC, dI) vwCl [] U ∧ va_D (fun _ => True) [(h0, .inr (9, [.ref qm, .ref qt, .ref qw, .ref qc, .ref qb, .ref qg, .int 0, .int 0, .int 0, .int 0, .int 0]))] ∧ zB a0 (va_A [(h0, .inr (9, [.ref qm, .ref qt, .ref qw, .ref qc, .ref qb, .ref qg, .int 0, .int 0, .int 0, .int 0, .int 0]))] sz) U U.heap)) (va_Qi (fun (r : Int32) (_ : Unit) => r = 0) (fun _ t => va_P (dC, dI) vwCl [(h0, .inr (9, [.ref qm, .ref qt, .ref qw, .ref qc, .ref qb, .ref qg, .int 0, .int 0, .int 0, .int 0, .int 0]))] t.heap ∧ va_K (dC, dI) vwCl [] t ∧ va_D (va_A [(h0, .inr (9, [.ref qm, .ref qt, .ref qw, .ref qc, .ref qb, .ref qg, .int 0, .int 0, .int 0, .int 0, .int 0]))] sz) [(h0, .inr (9, [.ref qm, .ref qt, .ref qw, .ref qc, .ref qb, .ref qg, .int 0, .int 0, .int 0, .int 0, .int 0]))]) (va_A [(h0, .inr (9, [.ref qm, .ref qt, .ref qw, .ref qc, .ref qb, .ref qg, .int 0, .int 0, .int 0, .int 0, .int 0]))] sz)) 0 0 (va_A [(h0, .inr (9, [.ref qm, .ref qt, .ref qw, .ref qc, .ref qb, .ref qg, .int 0, .int 0, .int 0, .int 0, .int 0]))] sz) := by
  refine Met.ofW (cc := cX7_many) (maxL := 2) (ret := (some .int)) (by decide) rfl ?_
  intro p e s m args below meth c s₁ B hml hv
  obtain ⟨rfl, hsz, hP, hK, hD0, hZ⟩ := hv
  have hx := B.exec
  have hb := B.bytes
  have hr := B.returns
  have hts := atoms_spec (ws := zs_c_X7_many_7) B.pre
  have hown : s.vm.findClass RX7 = some m.cls := findClass_of_methodNamed B.named
  have hlocks := B.notSynchronized
  have hiX7 : ∀ w ∈ wsX70, w ∈ zs_c_X7_many_7 := by decide +kernel
  subst hsz
  have hD := hD0.self (sz := s.heap.size)
  generalize hAe : va_A [(h0, .inr (9, [.ref qm, .ref qt, .ref qw, .ref qc, .ref qb, .ref qg, .int 0, .int 0, .int 0, .int 0, .int 0]))] s.heap.size = A at hD hZ ⊢
  have hA : ∀ q : Nat, s.heap.size ≤ q → A q := fun q h => by rw [← hAe]; exact Or.inr h
  have hS : va_S A s.heap s.heap [] := va_S.rf
  have hl := lv_entry ([.ref h0, .int 7]) (n := 2) (Nat.le_of_ble_eq_true rfl)
  rw [lg_entry_eq]
  generalize (lg_sl ([.ref h0, .int 7]) ++ List.replicate (2 - (lg_sl ([.ref h0, .int 7])).length) Slot.unset).toArray = ls at hl ⊢
  have hl : lv_has ls 2 [(0, .ref h0), (1, .int 7)] := hl
  refine lv_iload_n hx hb dX7_many_0 rfl (lv_at hl 1 rfl) ?_
  refine lv_iconst (v := 0) hx hb dX7_many_1 (by decide) ?_
  refine lv_bipush (v := 10) hx hb dX7_many_2 (by decide) ?_
  have hPc := hP.sub (ws' := []) [] rfl
  have hDc := hD.sub (ws' := []) [] (by decide) rfl
  have hKc := hK.sub (tys' := []) [] rfl
  have hFc := va_free (wc := []) hD hS hA [] rfl
  have hZc := ((hZ.kept hS.2.1).narrow hFc)
  refine va_calli (va_runS (As := [.int 7, .int 0, .int 10]) (rest := []) ⟨hx, hb, hml, hown, hts⟩ (c_X7_isWithin l hnt dC dI a0 7 0 10 s.heap.size ) (va_cwS 3 hts (goodIn_of _ (by decide +kernel)) rfl rfl rfl (by decide +kernel) ⟨Nat.le_of_ble_eq_true rfl, Nat.le_of_ble_eq_true rfl⟩) ⟨fun a U g mk q => by obtain ⟨q0, q1, qP, qK, qD, qZ⟩ := q; exact ⟨q0, q1, qP, va_K.moved (u := U) (U := U.calling g mk a) (Vm.Alike.refl U.vm) qK, qD, qZ.call⟩, fun U hU hW => ⟨rfl, by rw [hU], by rw [hU]; exact hPc, va_K.moved hW.alike hKc, hDc.weaken (fun _ _ _ _ => trivial), by rw [hU]; exact hZc.warm hW⟩⟩ rfl rfl hl.1 rfl (lv_room (Nat.le_of_ble_eq_true rfl)) dX7_many_4 ⟨Nat.le_of_ble_eq_true rfl, Nat.le_of_ble_eq_true rfl⟩) hS (fun q _ h => hFc q h) hFc (fun r_1 u t H1 locs ht hvm hw hB hz1 hk1 hS => ?_)
  obtain ⟨hP1, hK1, hD1⟩ := hB
  rw [ht] at hP1
  have hK1 := va_K.moved hvm.symm hK1
  obtain ⟨hP, hD⟩ := va_join (wr := [(h0, .inr (9, [.ref qm, .ref qt, .ref qw, .ref qc, .ref qb, .ref qg, .int 0, .int 0, .int 0, .int 0, .int 0]))]) (w1 := []) hP hD [] [0] rfl rfl (by decide) (by decide) hk1 hFc hP1 hD1
  have hK := (hK.sub (tys' := []) [] rfl).app hK1
  generalize H1 = H at hP hS ⊢
  have hP : va_P (dC, dI) vwCl [(h0, .inr (9, [.ref qm, .ref qt, .ref qw, .ref qc, .ref qb, .ref qg, .int 0, .int 0, .int 0, .int 0, .int 0]))] H := hP
  have hD : va_D A [(h0, .inr (9, [.ref qm, .ref qt, .ref qw, .ref qc, .ref qb, .ref qg, .int 0, .int 0, .int 0, .int 0, .int 0]))] := hD
  have hK : va_K (dC, dI) vwCl [] s := hK
  refine W.widen (k := 0) (n := 0) (Nat.le_of_ble_eq_true rfl) (Nat.le_of_ble_eq_true rfl) ?_
  obtain rfl : r_1 = 1 := hw.trans (by decide)
  have hPc := hP.sub (ws' := []) [] rfl
  have hDc := hD.sub (ws' := []) [] (by decide) rfl
  have hKc := hK.sub (tys' := []) [] rfl
  have hFc := va_free (wc := []) hD hS hA [] rfl
  have hZc := ((hZ.kept hS.2.1).narrow hFc)
  refine va_callv (va_runS (As := [.int 1]) (rest := []) ⟨hx, hb, hml, hown, hts⟩ (c_X7_require_ok l hnt dC dI a0  H.size ) (va_cwS 1 hts (goodIn_of _ (by decide +kernel)) rfl rfl rfl (by decide +kernel) ⟨Nat.le_of_ble_eq_true rfl, Nat.le_of_ble_eq_true rfl⟩) ⟨fun a U g mk q => by obtain ⟨q0, q1, qP, qK, qD, qZ⟩ := q; exact ⟨q0, q1, qP, va_K.moved (u := U) (U := U.calling g mk a) (Vm.Alike.refl U.vm) qK, qD, qZ.call⟩, fun U hU hW => ⟨rfl, by rw [hU], by rw [hU]; exact hPc, va_K.moved hW.alike hKc, hDc.weaken (fun _ _ _ _ => trivial), by rw [hU]; exact hZc.warm hW⟩⟩ rfl rfl hl.1 rfl (lv_room (Nat.le_of_ble_eq_true rfl)) dX7_many_7 ⟨Nat.le_of_ble_eq_true rfl, Nat.le_of_ble_eq_true rfl⟩) hS (fun q _ h => hFc q h) hFc (fun u t H1 locs ht hvm hw hB hz1 hk1 hS => ?_)
  obtain ⟨hP1, hK1, hD1⟩ := hB
  rw [ht] at hP1
  have hK1 := va_K.moved hvm.symm hK1
  obtain ⟨hP, hD⟩ := va_join (wr := [(h0, .inr (9, [.ref qm, .ref qt, .ref qw, .ref qc, .ref qb, .ref qg, .int 0, .int 0, .int 0, .int 0, .int 0]))]) (w1 := []) hP hD [] [0] rfl rfl (by decide) (by decide) hk1 hFc hP1 hD1
  have hK := (hK.sub (tys' := []) [] rfl).app hK1
  generalize H1 = H at hP hS ⊢
  have hP : va_P (dC, dI) vwCl [(h0, .inr (9, [.ref qm, .ref qt, .ref qw, .ref qc, .ref qb, .ref qg, .int 0, .int 0, .int 0, .int 0, .int 0]))] H := hP
  have hD : va_D A [(h0, .inr (9, [.ref qm, .ref qt, .ref qw, .ref qc, .ref qb, .ref qg, .int 0, .int 0, .int 0, .int 0, .int 0]))] := hD
  have hK : va_K (dC, dI) vwCl [] s := hK
  refine W.widen (k := 0) (n := 0) (Nat.le_of_ble_eq_true rfl) (Nat.le_of_ble_eq_true rfl) ?_
  refine lv_iload_n hx hb dX7_many_10 rfl (lv_at hl 1 rfl) ?_
  refine lv_tableIn (tgt := 84) hx hb dX7_many_11 (by decide) (by decide) rfl (by decide) ?_
  refine lv_aload_n hx hb dX7_many_84 rfl (lv_at hl 0 rfl) ?_
  refine va_get (D := (dC, dI)) (ci := 9) (v := .int 0) (C := RX7) (T := TX7) (N := 11) hx hb hts hiX7 hown hK hP 0 rfl rfl 8 (by decide) (hts (.fieldLink RX7 136 "Haltingale" "givenCount" "I") (by decide +kernel)) (fun _ h9 => h9) rfl dX7_many_85 ?_
  have hP9 := hP.sub (ws' := [(h0, .inr (9, [.ref qm, .ref qt, .ref qw, .ref qc, .ref qb, .ref qg, .int 0, .int 0, .int 0, .int 0, .int 0]))]) [0] rfl
  have hD9 := hD.sub (ws' := [(h0, .inr (9, [.ref qm, .ref qt, .ref qw, .ref qc, .ref qb, .ref qg, .int 0, .int 0, .int 0, .int 0, .int 0]))]) [0] (by decide) rfl
  have hK9 := hK.sub (tys' := []) [] rfl
  refine W.widen (k := 0) (n := 0) (Nat.le_of_ble_eq_true rfl) (Nat.le_of_ble_eq_true rfl) ?_
  exact W.iret (v := 0) hx hb hr (fun t ht hW => ⟨⟨0, (), rfl, rfl, ⟨by rw [ht]; exact hP9, va_K.moved hW.alike hK9, hD9⟩⟩, hS.F ht⟩) hS.2.2 dX7_many_88

def zs_c_X7_many_8 : List Cond := .code yX7_many cX7_many 2 (some .int) :: (([.code yX7_isWithin cX7_isWithin 3 (some .boolean), .methodLink RX7 49 yX7_isWithin, .static yX7_isWithin, .initialized RX7, .code yX7_require cX7_require 1 none, .methodLink RX7 53 yX7_require, .static yX7_require, .fieldLink RX7 142 "Haltingale" "takenCount" "I"] : List Cond) ++ wsX70)
set_option maxHeartbeats 4000000 in
set_option maxRecDepth 100000 in
/-- many of 8 -/
theorem c_X7_many_8 (l : Launch) (hnt : l.stackTraces = false) (dC : Nat → ClassId) (dI : Nat → Nat → Nat) (a0 : Nat) (h0 : Nat) (qm : Nat) (qt : Nat) (qw : Nat) (qc : Nat) (qb : Nat) (qg : Nat) (sz : Nat)  : Met l yX7_many zs_c_X7_many_8 ({ frames := 1, cells := 0, slots := 0, locals := 22 }) (va_Pc [.ref h0, .int 8] (fun U => U.heap.size = sz ∧ va_P (dC, dI) vwCl [(h0, .inr (9, [.ref qm, .ref qt, .ref qw, .ref qc, .ref qb, .ref qg, .int 0, .int 0, .int 0, .int 0, .int 0]))] U.heap ∧ va_K (dC, dI) vwCl [] U ∧ va_D (fun _ => True) [(h0, .inr (9, [.ref qm, .ref qt, .ref qw, .ref qc, .ref qb, .ref qg, .int 0, .int 0, .int 0, .int 0, .int 0]))] ∧ zB a0 (va_A [(h0, .inr (9, [.ref qm, .ref qt, .ref qw, .ref qc, .ref qb, .ref qg, .int 0, .int 0, .int 0, .int 0, .int 0]))] sz) U U.heap)) (va_Qi (fun (r : Int32) (_ : Unit) => r = 0) (fun _ t => va_P (dC, dI) vwCl [(h0, .inr (9, [.ref qm, .ref qt, .ref qw, .ref qc, .ref qb, .ref qg, .int 0, .int 0, .int 0, .int 0, .int 0]))] t.heap ∧ va_K (dC, dI) vwCl [] t ∧ va_D (va_A [(h0, .inr (9, [.ref qm, .ref qt, .ref qw, .ref qc, .ref qb, .ref qg, .int 0, .int 0, .int 0, .int 0, .int 0]))] sz) [(h0, .inr (9, [.ref qm, .ref qt, .ref qw, .ref qc, .ref qb, .ref qg, .int 0, .int 0, .int 0, .int 0, .int 0]))]) (va_A [(h0, .inr (9, [.ref qm, .ref qt, .ref qw, .ref qc, .ref qb, .ref qg, .int 0, .int 0, .int 0, .int 0, .int 0]))] sz)) 0 0 (va_A [(h0, .inr (9, [.ref qm, .ref qt, .ref qw, .ref qc, .ref qb, .ref qg, .int 0, .int 0, .int 0, .int 0, .int 0]))] sz) := by
  refine Met.ofW (cc := cX7_many) (maxL := 2) (ret := (some .int)) (by decide) rfl ?_
  intro p e s m args below meth c s₁ B hml hv
  obtain ⟨rfl, hsz, hP, hK, hD0, hZ⟩ := hv
  have hx := B.exec
  have hb := B.bytes
  have hr := B.returns
  have hts := atoms_spec (ws := zs_c_X7_many_8) B.pre
  have hown : s.vm.findClass RX7 = some m.cls := findClass_of_methodNamed B.named
  have hlocks := B.notSynchronized
  have hiX7 : ∀ w ∈ wsX70, w ∈ zs_c_X7_many_8 := by decide +kernel
  subst hsz
  have hD := hD0.self (sz := s.heap.size)
  generalize hAe : va_A [(h0, .inr (9, [.ref qm, .ref qt, .ref qw, .ref qc, .ref qb, .ref qg, .int 0, .int 0, .int 0, .int 0, .int 0]))] s.heap.size = A at hD hZ ⊢
  have hA : ∀ q : Nat, s.heap.size ≤ q → A q := fun q h => by rw [← hAe]; exact Or.inr h
  have hS : va_S A s.heap s.heap [] := va_S.rf
  have hl := lv_entry ([.ref h0, .int 8]) (n := 2) (Nat.le_of_ble_eq_true rfl)
  rw [lg_entry_eq]
  generalize (lg_sl ([.ref h0, .int 8]) ++ List.replicate (2 - (lg_sl ([.ref h0, .int 8])).length) Slot.unset).toArray = ls at hl ⊢
  have hl : lv_has ls 2 [(0, .ref h0), (1, .int 8)] := hl
  refine lv_iload_n hx hb dX7_many_0 rfl (lv_at hl 1 rfl) ?_
  refine lv_iconst (v := 0) hx hb dX7_many_1 (by decide) ?_
  refine lv_bipush (v := 10) hx hb dX7_many_2 (by decide) ?_
  have hPc := hP.sub (ws' := []) [] rfl
  have hDc := hD.sub (ws' := []) [] (by decide) rfl
  have hKc := hK.sub (tys' := []) [] rfl
  have hFc := va_free (wc := []) hD hS hA [] rfl
  have hZc := ((hZ.kept hS.2.1).narrow hFc)
  refine va_calli (va_runS (As := [.int 8, .int 0, .int 10]) (rest := []) ⟨hx, hb, hml, hown, hts⟩ (c_X7_isWithin l hnt dC dI a0 8 0 10 s.heap.size ) (va_cwS 3 hts (goodIn_of _ (by decide +kernel)) rfl rfl rfl (by decide +kernel) ⟨Nat.le_of_ble_eq_true rfl, Nat.le_of_ble_eq_true rfl⟩) ⟨fun a U g mk q => by obtain ⟨q0, q1, qP, qK, qD, qZ⟩ := q; exact ⟨q0, q1, qP, va_K.moved (u := U) (U := U.calling g mk a) (Vm.Alike.refl U.vm) qK, qD, qZ.call⟩, fun U hU hW => ⟨rfl, by rw [hU], by rw [hU]; exact hPc, va_K.moved hW.alike hKc, hDc.weaken (fun _ _ _ _ => trivial), by rw [hU]; exact hZc.warm hW⟩⟩ rfl rfl hl.1 rfl (lv_room (Nat.le_of_ble_eq_true rfl)) dX7_many_4 ⟨Nat.le_of_ble_eq_true rfl, Nat.le_of_ble_eq_true rfl⟩) hS (fun q _ h => hFc q h) hFc (fun r_1 u t H1 locs ht hvm hw hB hz1 hk1 hS => ?_)
  obtain ⟨hP1, hK1, hD1⟩ := hB
  rw [ht] at hP1
  have hK1 := va_K.moved hvm.symm hK1
  obtain ⟨hP, hD⟩ := va_join (wr := [(h0, .inr (9, [.ref qm, .ref qt, .ref qw, .ref qc, .ref qb, .ref qg, .int 0, .int 0, .int 0, .int 0, .int 0]))]) (w1 := []) hP hD [] [0] rfl rfl (by decide) (by decide) hk1 hFc hP1 hD1
  have hK := (hK.sub (tys' := []) [] rfl).app hK1
  generalize H1 = H at hP hS ⊢
  have hP : va_P (dC, dI) vwCl [(h0, .inr (9, [.ref qm, .ref qt, .ref qw, .ref qc, .ref qb, .ref qg, .int 0, .int 0, .int 0, .int 0, .int 0]))] H := hP
  have hD : va_D A [(h0, .inr (9, [.ref qm, .ref qt, .ref qw, .ref qc, .ref qb, .ref qg, .int 0, .int 0, .int 0, .int 0, .int 0]))] := hD
  have hK : va_K (dC, dI) vwCl [] s := hK
  refine W.widen (k := 0) (n := 0) (Nat.le_of_ble_eq_true rfl) (Nat.le_of_ble_eq_true rfl) ?_
  obtain rfl : r_1 = 1 := hw.trans (by decide)
  have hPc := hP.sub (ws' := []) [] rfl
  have hDc := hD.sub (ws' := []) [] (by decide) rfl
  have hKc := hK.sub (tys' := []) [] rfl
  have hFc := va_free (wc := []) hD hS hA [] rfl
  have hZc := ((hZ.kept hS.2.1).narrow hFc)
  refine va_callv (va_runS (As := [.int 1]) (rest := []) ⟨hx, hb, hml, hown, hts⟩ (c_X7_require_ok l hnt dC dI a0  H.size ) (va_cwS 1 hts (goodIn_of _ (by decide +kernel)) rfl rfl rfl (by decide +kernel) ⟨Nat.le_of_ble_eq_true rfl, Nat.le_of_ble_eq_true rfl⟩) ⟨fun a U g mk q => by obtain ⟨q0, q1, qP, qK, qD, qZ⟩ := q; exact ⟨q0, q1, qP, va_K.moved (u := U) (U := U.calling g mk a) (Vm.Alike.refl U.vm) qK, qD, qZ.call⟩, fun U hU hW => ⟨rfl, by rw [hU], by rw [hU]; exact hPc, va_K.moved hW.alike hKc, hDc.weaken (fun _ _ _ _ => trivial), by rw [hU]; exact hZc.warm hW⟩⟩ rfl rfl hl.1 rfl (lv_room (Nat.le_of_ble_eq_true rfl)) dX7_many_7 ⟨Nat.le_of_ble_eq_true rfl, Nat.le_of_ble_eq_true rfl⟩) hS (fun q _ h => hFc q h) hFc (fun u t H1 locs ht hvm hw hB hz1 hk1 hS => ?_)
  obtain ⟨hP1, hK1, hD1⟩ := hB
  rw [ht] at hP1
  have hK1 := va_K.moved hvm.symm hK1
  obtain ⟨hP, hD⟩ := va_join (wr := [(h0, .inr (9, [.ref qm, .ref qt, .ref qw, .ref qc, .ref qb, .ref qg, .int 0, .int 0, .int 0, .int 0, .int 0]))]) (w1 := []) hP hD [] [0] rfl rfl (by decide) (by decide) hk1 hFc hP1 hD1
  have hK := (hK.sub (tys' := []) [] rfl).app hK1
  generalize H1 = H at hP hS ⊢
  have hP : va_P (dC, dI) vwCl [(h0, .inr (9, [.ref qm, .ref qt, .ref qw, .ref qc, .ref qb, .ref qg, .int 0, .int 0, .int 0, .int 0, .int 0]))] H := hP
  have hD : va_D A [(h0, .inr (9, [.ref qm, .ref qt, .ref qw, .ref qc, .ref qb, .ref qg, .int 0, .int 0, .int 0, .int 0, .int 0]))] := hD
  have hK : va_K (dC, dI) vwCl [] s := hK
  refine W.widen (k := 0) (n := 0) (Nat.le_of_ble_eq_true rfl) (Nat.le_of_ble_eq_true rfl) ?_
  refine lv_iload_n hx hb dX7_many_10 rfl (lv_at hl 1 rfl) ?_
  refine lv_tableIn (tgt := 89) hx hb dX7_many_11 (by decide) (by decide) rfl (by decide) ?_
  refine lv_aload_n hx hb dX7_many_89 rfl (lv_at hl 0 rfl) ?_
  refine va_get (D := (dC, dI)) (ci := 9) (v := .int 0) (C := RX7) (T := TX7) (N := 11) hx hb hts hiX7 hown hK hP 0 rfl rfl 9 (by decide) (hts (.fieldLink RX7 142 "Haltingale" "takenCount" "I") (by decide +kernel)) (fun _ h9 => h9) rfl dX7_many_90 ?_
  have hP9 := hP.sub (ws' := [(h0, .inr (9, [.ref qm, .ref qt, .ref qw, .ref qc, .ref qb, .ref qg, .int 0, .int 0, .int 0, .int 0, .int 0]))]) [0] rfl
  have hD9 := hD.sub (ws' := [(h0, .inr (9, [.ref qm, .ref qt, .ref qw, .ref qc, .ref qb, .ref qg, .int 0, .int 0, .int 0, .int 0, .int 0]))]) [0] (by decide) rfl
  have hK9 := hK.sub (tys' := []) [] rfl
  refine W.widen (k := 0) (n := 0) (Nat.le_of_ble_eq_true rfl) (Nat.le_of_ble_eq_true rfl) ?_
  exact W.iret (v := 0) hx hb hr (fun t ht hW => ⟨⟨0, (), rfl, rfl, ⟨by rw [ht]; exact hP9, va_K.moved hW.alike hK9, hD9⟩⟩, hS.F ht⟩) hS.2.2 dX7_many_93

def zs_c_X7_many_9 : List Cond := .code yX7_many cX7_many 2 (some .int) :: (([.code yX7_isWithin cX7_isWithin 3 (some .boolean), .methodLink RX7 49 yX7_isWithin, .static yX7_isWithin, .initialized RX7, .code yX7_require cX7_require 1 none, .methodLink RX7 53 yX7_require, .static yX7_require, .fieldLink RX7 255 "Haltingale" "takenBackCount" "I"] : List Cond) ++ wsX70)
set_option maxHeartbeats 4000000 in
set_option maxRecDepth 100000 in
/-- many of 9 -/
theorem c_X7_many_9 (l : Launch) (hnt : l.stackTraces = false) (dC : Nat → ClassId) (dI : Nat → Nat → Nat) (a0 : Nat) (h0 : Nat) (qm : Nat) (qt : Nat) (qw : Nat) (qc : Nat) (qb : Nat) (qg : Nat) (sz : Nat)  : Met l yX7_many zs_c_X7_many_9 ({ frames := 1, cells := 0, slots := 0, locals := 22 }) (va_Pc [.ref h0, .int 9] (fun U => U.heap.size = sz ∧ va_P (dC, dI) vwCl [(h0, .inr (9, [.ref qm, .ref qt, .ref qw, .ref qc, .ref qb, .ref qg, .int 0, .int 0, .int 0, .int 0, .int 0]))] U.heap ∧ va_K (dC, dI) vwCl [] U ∧ va_D (fun _ => True) [(h0, .inr (9, [.ref qm, .ref qt, .ref qw, .ref qc, .ref qb, .ref qg, .int 0, .int 0, .int 0, .int 0, .int 0]))] ∧ zB a0 (va_A [(h0, .inr (9, [.ref qm, .ref qt, .ref qw, .ref qc, .ref qb, .ref qg, .int 0, .int 0, .int 0, .int 0, .int 0]))] sz) U U.heap)) (va_Qi (fun (r : Int32) (_ : Unit) => r = 0) (fun _ t => va_P (dC, dI) vwCl [(h0, .inr (9, [.ref qm, .ref qt, .ref qw, .ref qc, .ref qb, .ref qg, .int 0, .int 0, .int 0, .int 0, .int 0]))] t.heap ∧ va_K (dC, dI) vwCl [] t ∧ va_D (va_A [(h0, .inr (9, [.ref qm, .ref qt, .ref qw, .ref qc, .ref qb, .ref qg, .int 0, .int 0, .int 0, .int 0, .int 0]))] sz) [(h0, .inr (9, [.ref qm, .ref qt, .ref qw, .ref qc, .ref qb, .ref qg, .int 0, .int 0, .int 0, .int 0, .int 0]))]) (va_A [(h0, .inr (9, [.ref qm, .ref qt, .ref qw, .ref qc, .ref qb, .ref qg, .int 0, .int 0, .int 0, .int 0, .int 0]))] sz)) 0 0 (va_A [(h0, .inr (9, [.ref qm, .ref qt, .ref qw, .ref qc, .ref qb, .ref qg, .int 0, .int 0, .int 0, .int 0, .int 0]))] sz) := by
  refine Met.ofW (cc := cX7_many) (maxL := 2) (ret := (some .int)) (by decide) rfl ?_
  intro p e s m args below meth c s₁ B hml hv
  obtain ⟨rfl, hsz, hP, hK, hD0, hZ⟩ := hv
  have hx := B.exec
  have hb := B.bytes
  have hr := B.returns
  have hts := atoms_spec (ws := zs_c_X7_many_9) B.pre
  have hown : s.vm.findClass RX7 = some m.cls := findClass_of_methodNamed B.named
  have hlocks := B.notSynchronized
  have hiX7 : ∀ w ∈ wsX70, w ∈ zs_c_X7_many_9 := by decide +kernel
  subst hsz
  have hD := hD0.self (sz := s.heap.size)
  generalize hAe : va_A [(h0, .inr (9, [.ref qm, .ref qt, .ref qw, .ref qc, .ref qb, .ref qg, .int 0, .int 0, .int 0, .int 0, .int 0]))] s.heap.size = A at hD hZ ⊢
  have hA : ∀ q : Nat, s.heap.size ≤ q → A q := fun q h => by rw [← hAe]; exact Or.inr h
  have hS : va_S A s.heap s.heap [] := va_S.rf
  have hl := lv_entry ([.ref h0, .int 9]) (n := 2) (Nat.le_of_ble_eq_true rfl)
  rw [lg_entry_eq]
  generalize (lg_sl ([.ref h0, .int 9]) ++ List.replicate (2 - (lg_sl ([.ref h0, .int 9])).length) Slot.unset).toArray = ls at hl ⊢
  have hl : lv_has ls 2 [(0, .ref h0), (1, .int 9)] := hl
  refine lv_iload_n hx hb dX7_many_0 rfl (lv_at hl 1 rfl) ?_
  refine lv_iconst (v := 0) hx hb dX7_many_1 (by decide) ?_
  refine lv_bipush (v := 10) hx hb dX7_many_2 (by decide) ?_
  have hPc := hP.sub (ws' := []) [] rfl
  have hDc := hD.sub (ws' := []) [] (by decide) rfl
  have hKc := hK.sub (tys' := []) [] rfl
  have hFc := va_free (wc := []) hD hS hA [] rfl
  have hZc := ((hZ.kept hS.2.1).narrow hFc)
  refine va_calli (va_runS (As := [.int 9, .int 0, .int 10]) (rest := []) ⟨hx, hb, hml, hown, hts⟩ (c_X7_isWithin l hnt dC dI a0 9 0 10 s.heap.size ) (va_cwS 3 hts (goodIn_of _ (by decide +kernel)) rfl rfl rfl (by decide +kernel) ⟨Nat.le_of_ble_eq_true rfl, Nat.le_of_ble_eq_true rfl⟩) ⟨fun a U g mk q => by obtain ⟨q0, q1, qP, qK, qD, qZ⟩ := q; exact ⟨q0, q1, qP, va_K.moved (u := U) (U := U.calling g mk a) (Vm.Alike.refl U.vm) qK, qD, qZ.call⟩, fun U hU hW => ⟨rfl, by rw [hU], by rw [hU]; exact hPc, va_K.moved hW.alike hKc, hDc.weaken (fun _ _ _ _ => trivial), by rw [hU]; exact hZc.warm hW⟩⟩ rfl rfl hl.1 rfl (lv_room (Nat.le_of_ble_eq_true rfl)) dX7_many_4 ⟨Nat.le_of_ble_eq_true rfl, Nat.le_of_ble_eq_true rfl⟩) hS (fun q _ h => hFc q h) hFc (fun r_1 u t H1 locs ht hvm hw hB hz1 hk1 hS => ?_)
  obtain ⟨hP1, hK1, hD1⟩ := hB
  rw [ht] at hP1
  have hK1 := va_K.moved hvm.symm hK1
  obtain ⟨hP, hD⟩ := va_join (wr := [(h0, .inr (9, [.ref qm, .ref qt, .ref qw, .ref qc, .ref qb, .ref qg, .int 0, .int 0, .int 0, .int 0, .int 0]))]) (w1 := []) hP hD [] [0] rfl rfl (by decide) (by decide) hk1 hFc hP1 hD1
  have hK := (hK.sub (tys' := []) [] rfl).app hK1
  generalize H1 = H at hP hS ⊢
  have hP : va_P (dC, dI) vwCl [(h0, .inr (9, [.ref qm, .ref qt, .ref qw, .ref qc, .ref qb, .ref qg, .int 0, .int 0, .int 0, .int 0, .int 0]))] H := hP
  have hD : va_D A [(h0, .inr (9, [.ref qm, .ref qt, .ref qw, .ref qc, .ref qb, .ref qg, .int 0, .int 0, .int 0, .int 0, .int 0]))] := hD
  have hK : va_K (dC, dI) vwCl [] s := hK
  refine W.widen (k := 0) (n := 0) (Nat.le_of_ble_eq_true rfl) (Nat.le_of_ble_eq_true rfl) ?_
  obtain rfl : r_1 = 1 := hw.trans (by decide)
  have hPc := hP.sub (ws' := []) [] rfl
  have hDc := hD.sub (ws' := []) [] (by decide) rfl
  have hKc := hK.sub (tys' := []) [] rfl
  have hFc := va_free (wc := []) hD hS hA [] rfl
  have hZc := ((hZ.kept hS.2.1).narrow hFc)
  refine va_callv (va_runS (As := [.int 1]) (rest := []) ⟨hx, hb, hml, hown, hts⟩ (c_X7_require_ok l hnt dC dI a0  H.size ) (va_cwS 1 hts (goodIn_of _ (by decide +kernel)) rfl rfl rfl (by decide +kernel) ⟨Nat.le_of_ble_eq_true rfl, Nat.le_of_ble_eq_true rfl⟩) ⟨fun a U g mk q => by obtain ⟨q0, q1, qP, qK, qD, qZ⟩ := q; exact ⟨q0, q1, qP, va_K.moved (u := U) (U := U.calling g mk a) (Vm.Alike.refl U.vm) qK, qD, qZ.call⟩, fun U hU hW => ⟨rfl, by rw [hU], by rw [hU]; exact hPc, va_K.moved hW.alike hKc, hDc.weaken (fun _ _ _ _ => trivial), by rw [hU]; exact hZc.warm hW⟩⟩ rfl rfl hl.1 rfl (lv_room (Nat.le_of_ble_eq_true rfl)) dX7_many_7 ⟨Nat.le_of_ble_eq_true rfl, Nat.le_of_ble_eq_true rfl⟩) hS (fun q _ h => hFc q h) hFc (fun u t H1 locs ht hvm hw hB hz1 hk1 hS => ?_)
  obtain ⟨hP1, hK1, hD1⟩ := hB
  rw [ht] at hP1
  have hK1 := va_K.moved hvm.symm hK1
  obtain ⟨hP, hD⟩ := va_join (wr := [(h0, .inr (9, [.ref qm, .ref qt, .ref qw, .ref qc, .ref qb, .ref qg, .int 0, .int 0, .int 0, .int 0, .int 0]))]) (w1 := []) hP hD [] [0] rfl rfl (by decide) (by decide) hk1 hFc hP1 hD1
  have hK := (hK.sub (tys' := []) [] rfl).app hK1
  generalize H1 = H at hP hS ⊢
  have hP : va_P (dC, dI) vwCl [(h0, .inr (9, [.ref qm, .ref qt, .ref qw, .ref qc, .ref qb, .ref qg, .int 0, .int 0, .int 0, .int 0, .int 0]))] H := hP
  have hD : va_D A [(h0, .inr (9, [.ref qm, .ref qt, .ref qw, .ref qc, .ref qb, .ref qg, .int 0, .int 0, .int 0, .int 0, .int 0]))] := hD
  have hK : va_K (dC, dI) vwCl [] s := hK
  refine W.widen (k := 0) (n := 0) (Nat.le_of_ble_eq_true rfl) (Nat.le_of_ble_eq_true rfl) ?_
  refine lv_iload_n hx hb dX7_many_10 rfl (lv_at hl 1 rfl) ?_
  refine lv_tableIn (tgt := 94) hx hb dX7_many_11 (by decide) (by decide) rfl (by decide) ?_
  refine lv_aload_n hx hb dX7_many_94 rfl (lv_at hl 0 rfl) ?_
  refine va_get (D := (dC, dI)) (ci := 9) (v := .int 0) (C := RX7) (T := TX7) (N := 11) hx hb hts hiX7 hown hK hP 0 rfl rfl 10 (by decide) (hts (.fieldLink RX7 255 "Haltingale" "takenBackCount" "I") (by decide +kernel)) (fun _ h9 => h9) rfl dX7_many_95 ?_
  have hP9 := hP.sub (ws' := [(h0, .inr (9, [.ref qm, .ref qt, .ref qw, .ref qc, .ref qb, .ref qg, .int 0, .int 0, .int 0, .int 0, .int 0]))]) [0] rfl
  have hD9 := hD.sub (ws' := [(h0, .inr (9, [.ref qm, .ref qt, .ref qw, .ref qc, .ref qb, .ref qg, .int 0, .int 0, .int 0, .int 0, .int 0]))]) [0] (by decide) rfl
  have hK9 := hK.sub (tys' := []) [] rfl
  refine W.widen (k := 0) (n := 0) (Nat.le_of_ble_eq_true rfl) (Nat.le_of_ble_eq_true rfl) ?_
  exact W.iret (v := 0) hx hb hr (fun t ht hW => ⟨⟨0, (), rfl, rfl, ⟨by rw [ht]; exact hP9, va_K.moved hW.alike hK9, hD9⟩⟩, hS.F ht⟩) hS.2.2 dX7_many_98

def zs_c_X7_many_10 : List Cond := .code yX7_many cX7_many 2 (some .int) :: (([.code yX7_isWithin cX7_isWithin 3 (some .boolean), .methodLink RX7 49 yX7_isWithin, .static yX7_isWithin, .initialized RX7, .code yX7_require cX7_require 1 none, .methodLink RX7 53 yX7_require, .static yX7_require, .code yX7_countEmptyCells cX7_countEmptyCells 3 (some .int), .fieldLink RX7 148 "Haltingale" "machineCount" "I", .methodLink RX7 258 yX7_countEmptyCells, .instanceMethod yX7_countEmptyCells, .selects RX7 yX7_countEmptyCells yX7_countEmptyCells] : List Cond) ++ wsX70)
set_option maxHeartbeats 4000000 in
set_option maxRecDepth 100000 in
/-- many of 10 -/
theorem c_X7_many_10 (l : Launch) (hnt : l.stackTraces = false) (dC : Nat → ClassId) (dI : Nat → Nat → Nat) (a0 : Nat) (h0 : Nat) (qm : Nat) (qt : Nat) (qw : Nat) (qc : Nat) (qb : Nat) (qg : Nat) (sz : Nat)  : Met l yX7_many zs_c_X7_many_10 ({ frames := 1, cells := 0, slots := 0, locals := 22 }) (va_Pc [.ref h0, .int 10] (fun U => U.heap.size = sz ∧ va_P (dC, dI) vwCl [(h0, .inr (9, [.ref qm, .ref qt, .ref qw, .ref qc, .ref qb, .ref qg, .int 0, .int 0, .int 0, .int 0, .int 0]))] U.heap ∧ va_K (dC, dI) vwCl [] U ∧ va_D (fun _ => True) [(h0, .inr (9, [.ref qm, .ref qt, .ref qw, .ref qc, .ref qb, .ref qg, .int 0, .int 0, .int 0, .int 0, .int 0]))] ∧ zB a0 (va_A [(h0, .inr (9, [.ref qm, .ref qt, .ref qw, .ref qc, .ref qb, .ref qg, .int 0, .int 0, .int 0, .int 0, .int 0]))] sz) U U.heap)) (va_Qi (fun (r : Int32) (_ : Unit) => r = 0) (fun _ t => va_P (dC, dI) vwCl [(h0, .inr (9, [.ref qm, .ref qt, .ref qw, .ref qc, .ref qb, .ref qg, .int 0, .int 0, .int 0, .int 0, .int 0]))] t.heap ∧ va_K (dC, dI) vwCl [] t ∧ va_D (va_A [(h0, .inr (9, [.ref qm, .ref qt, .ref qw, .ref qc, .ref qb, .ref qg, .int 0, .int 0, .int 0, .int 0, .int 0]))] sz) [(h0, .inr (9, [.ref qm, .ref qt, .ref qw, .ref qc, .ref qb, .ref qg, .int 0, .int 0, .int 0, .int 0, .int 0]))]) (va_A [(h0, .inr (9, [.ref qm, .ref qt, .ref qw, .ref qc, .ref qb, .ref qg, .int 0, .int 0, .int 0, .int 0, .int 0]))] sz)) 0 0 (va_A [(h0, .inr (9, [.ref qm, .ref qt, .ref qw, .ref qc, .ref qb, .ref qg, .int 0, .int 0, .int 0, .int 0, .int 0]))] sz) := by
  refine Met.ofW (cc := cX7_many) (maxL := 2) (ret := (some .int)) (by decide) rfl ?_
  intro p e s m args below meth c s₁ B hml hv
  obtain ⟨rfl, hsz, hP, hK, hD0, hZ⟩ := hv
  have hx := B.exec
  have hb := B.bytes
  have hr := B.returns
  have hts := atoms_spec (ws := zs_c_X7_many_10) B.pre
  have hown : s.vm.findClass RX7 = some m.cls := findClass_of_methodNamed B.named
  have hlocks := B.notSynchronized
  subst hsz
  have hD := hD0.self (sz := s.heap.size)
  generalize hAe : va_A [(h0, .inr (9, [.ref qm, .ref qt, .ref qw, .ref qc, .ref qb, .ref qg, .int 0, .int 0, .int 0, .int 0, .int 0]))] s.heap.size = A at hD hZ ⊢
  have hA : ∀ q : Nat, s.heap.size ≤ q → A q := fun q h => by rw [← hAe]; exact Or.inr h
  have hS : va_S A s.heap s.heap [] := va_S.rf
  have hl := lv_entry ([.ref h0, .int 10]) (n := 2) (Nat.le_of_ble_eq_true rfl)
  rw [lg_entry_eq]
  generalize (lg_sl ([.ref h0, .int 10]) ++ List.replicate (2 - (lg_sl ([.ref h0, .int 10])).length) Slot.unset).toArray = ls at hl ⊢
  have hl : lv_has ls 2 [(0, .ref h0), (1, .int 10)] := hl
  refine lv_iload_n hx hb dX7_many_0 rfl (lv_at hl 1 rfl) ?_
  refine lv_iconst (v := 0) hx hb dX7_many_1 (by decide) ?_
  refine lv_bipush (v := 10) hx hb dX7_many_2 (by decide) ?_
  have hPc := hP.sub (ws' := []) [] rfl
  have hDc := hD.sub (ws' := []) [] (by decide) rfl
  have hKc := hK.sub (tys' := []) [] rfl
  have hFc := va_free (wc := []) hD hS hA [] rfl
  have hZc := ((hZ.kept hS.2.1).narrow hFc)
  refine va_calli (va_runS (As := [.int 10, .int 0, .int 10]) (rest := []) ⟨hx, hb, hml, hown, hts⟩ (c_X7_isWithin l hnt dC dI a0 10 0 10 s.heap.size ) (va_cwS 3 hts (goodIn_of _ (by decide +kernel)) rfl rfl rfl (by decide +kernel) ⟨Nat.le_of_ble_eq_true rfl, Nat.le_of_ble_eq_true rfl⟩) ⟨fun a U g mk q => by obtain ⟨q0, q1, qP, qK, qD, qZ⟩ := q; exact ⟨q0, q1, qP, va_K.moved (u := U) (U := U.calling g mk a) (Vm.Alike.refl U.vm) qK, qD, qZ.call⟩, fun U hU hW => ⟨rfl, by rw [hU], by rw [hU]; exact hPc, va_K.moved hW.alike hKc, hDc.weaken (fun _ _ _ _ => trivial), by rw [hU]; exact hZc.warm hW⟩⟩ rfl rfl hl.1 rfl (lv_room (Nat.le_of_ble_eq_true rfl)) dX7_many_4 ⟨Nat.le_of_ble_eq_true rfl, Nat.le_of_ble_eq_true rfl⟩) hS (fun q _ h => hFc q h) hFc (fun r_1 u t H1 locs ht hvm hw hB hz1 hk1 hS => ?_)
  obtain ⟨hP1, hK1, hD1⟩ := hB
  rw [ht] at hP1
  have hK1 := va_K.moved hvm.symm hK1
  obtain ⟨hP, hD⟩ := va_join (wr := [(h0, .inr (9, [.ref qm, .ref qt, .ref qw, .ref qc, .ref qb, .ref qg, .int 0, .int 0, .int 0, .int 0, .int 0]))]) (w1 := []) hP hD [] [0] rfl rfl (by decide) (by decide) hk1 hFc hP1 hD1
  have hK := (hK.sub (tys' := []) [] rfl).app hK1
  generalize H1 = H at hP hS ⊢
  have hP : va_P (dC, dI) vwCl [(h0, .inr (9, [.ref qm, .ref qt, .ref qw, .ref qc, .ref qb, .ref qg, .int 0, .int 0, .int 0, .int 0, .int 0]))] H := hP
  have hD : va_D A [(h0, .inr (9, [.ref qm, .ref qt, .ref qw, .ref qc, .ref qb, .ref qg, .int 0, .int 0, .int 0, .int 0, .int 0]))] := hD
  have hK : va_K (dC, dI) vwCl [] s := hK
  refine W.widen (k := 0) (n := 0) (Nat.le_of_ble_eq_true rfl) (Nat.le_of_ble_eq_true rfl) ?_
  obtain rfl : r_1 = 1 := hw.trans (by decide)
  have hPc := hP.sub (ws' := []) [] rfl
  have hDc := hD.sub (ws' := []) [] (by decide) rfl
  have hKc := hK.sub (tys' := []) [] rfl
  have hFc := va_free (wc := []) hD hS hA [] rfl
  have hZc := ((hZ.kept hS.2.1).narrow hFc)
  refine va_callv (va_runS (As := [.int 1]) (rest := []) ⟨hx, hb, hml, hown, hts⟩ (c_X7_require_ok l hnt dC dI a0  H.size ) (va_cwS 1 hts (goodIn_of _ (by decide +kernel)) rfl rfl rfl (by decide +kernel) ⟨Nat.le_of_ble_eq_true rfl, Nat.le_of_ble_eq_true rfl⟩) ⟨fun a U g mk q => by obtain ⟨q0, q1, qP, qK, qD, qZ⟩ := q; exact ⟨q0, q1, qP, va_K.moved (u := U) (U := U.calling g mk a) (Vm.Alike.refl U.vm) qK, qD, qZ.call⟩, fun U hU hW => ⟨rfl, by rw [hU], by rw [hU]; exact hPc, va_K.moved hW.alike hKc, hDc.weaken (fun _ _ _ _ => trivial), by rw [hU]; exact hZc.warm hW⟩⟩ rfl rfl hl.1 rfl (lv_room (Nat.le_of_ble_eq_true rfl)) dX7_many_7 ⟨Nat.le_of_ble_eq_true rfl, Nat.le_of_ble_eq_true rfl⟩) hS (fun q _ h => hFc q h) hFc (fun u t H1 locs ht hvm hw hB hz1 hk1 hS => ?_)
  obtain ⟨hP1, hK1, hD1⟩ := hB
  rw [ht] at hP1
  have hK1 := va_K.moved hvm.symm hK1
  obtain ⟨hP, hD⟩ := va_join (wr := [(h0, .inr (9, [.ref qm, .ref qt, .ref qw, .ref qc, .ref qb, .ref qg, .int 0, .int 0, .int 0, .int 0, .int 0]))]) (w1 := []) hP hD [] [0] rfl rfl (by decide) (by decide) hk1 hFc hP1 hD1
  have hK := (hK.sub (tys' := []) [] rfl).app hK1
  generalize H1 = H at hP hS ⊢
  have hP : va_P (dC, dI) vwCl [(h0, .inr (9, [.ref qm, .ref qt, .ref qw, .ref qc, .ref qb, .ref qg, .int 0, .int 0, .int 0, .int 0, .int 0]))] H := hP
  have hD : va_D A [(h0, .inr (9, [.ref qm, .ref qt, .ref qw, .ref qc, .ref qb, .ref qg, .int 0, .int 0, .int 0, .int 0, .int 0]))] := hD
  have hK : va_K (dC, dI) vwCl [] s := hK
  refine W.widen (k := 0) (n := 0) (Nat.le_of_ble_eq_true rfl) (Nat.le_of_ble_eq_true rfl) ?_
  refine lv_iload_n hx hb dX7_many_10 rfl (lv_at hl 1 rfl) ?_
  refine lv_tableIn (tgt := 99) hx hb dX7_many_11 (by decide) (by decide) rfl (by decide) ?_
  refine lv_aload_n hx hb dX7_many_99 rfl (lv_at hl 0 rfl) ?_
  have hPc := hP.sub (ws' := [(h0, .inr (9, [.ref qm, .ref qt, .ref qw, .ref qc, .ref qb, .ref qg, .int 0, .int 0, .int 0, .int 0, .int 0]))]) [0] rfl
  have hDc := hD.sub (ws' := [(h0, .inr (9, [.ref qm, .ref qt, .ref qw, .ref qc, .ref qb, .ref qg, .int 0, .int 0, .int 0, .int 0, .int 0]))]) [0] (by decide) rfl
  have hKc := hK.sub (tys' := []) [] rfl
  have hFc := va_free (wc := [(h0, .inr (9, [.ref qm, .ref qt, .ref qw, .ref qc, .ref qb, .ref qg, .int 0, .int 0, .int 0, .int 0, .int 0]))]) hD hS hA [0] rfl
  have hZc := ((hZ.kept hS.2.1).narrow hFc)
  refine va_calli (va_runV (As := []) (rest := []) ⟨hx, hb, hml, hown, hts⟩ (c_X7_countEmptyCells l hnt dC dI a0 h0 qm qt qw qc qb qg H.size ) (cwV 0 hts (goodIn_of _ (by decide +kernel)) rfl rfl rfl (by decide +kernel) ⟨Nat.le_of_ble_eq_true rfl, Nat.le_of_ble_eq_true rfl⟩) ⟨fun a U g mk q => by obtain ⟨q0, q1, qP, qK, qD, qZ⟩ := q; exact ⟨q0, q1, qP, va_K.moved (u := U) (U := U.calling g mk a) (Vm.Alike.refl U.vm) qK, qD, qZ.call⟩, va_recv hKc hPc (ci := 9) (q0 := 0) rfl rfl, fun U hU hW => ⟨rfl, by rw [hU], by rw [hU]; exact hPc, va_K.moved hW.alike hKc, hDc.weaken (fun _ _ _ _ => trivial), by rw [hU]; exact hZc.warm hW⟩⟩ rfl rfl hl.1 rfl (lv_room (Nat.le_of_ble_eq_true rfl)) dX7_many_100 ⟨Nat.le_of_ble_eq_true rfl, Nat.le_of_ble_eq_true rfl⟩) hS (fun q _ h => hFc q h) hFc (fun r_3 u t H1 locs ht hvm hw hB hz1 hk1 hS => ?_)
  obtain ⟨hP1, hK1, hD1⟩ := hB
  rw [ht] at hP1
  have hK1 := va_K.moved hvm.symm hK1
  obtain ⟨hP, hD⟩ := va_join (wr := []) (w1 := [(h0, .inr (9, [.ref qm, .ref qt, .ref qw, .ref qc, .ref qb, .ref qg, .int 0, .int 0, .int 0, .int 0, .int 0]))]) hP hD [0] [] rfl rfl (by decide) (by decide) hk1 hFc hP1 hD1
  have hK := (hK.sub (tys' := []) [] rfl).app hK1
  generalize H1 = H at hP hS ⊢
  have hP : va_P (dC, dI) vwCl [(h0, .inr (9, [.ref qm, .ref qt, .ref qw, .ref qc, .ref qb, .ref qg, .int 0, .int 0, .int 0, .int 0, .int 0]))] H := hP
  have hD : va_D A [(h0, .inr (9, [.ref qm, .ref qt, .ref qw, .ref qc, .ref qb, .ref qg, .int 0, .int 0, .int 0, .int 0, .int 0]))] := hD
  have hK : va_K (dC, dI) vwCl [] s := hK
  refine W.widen (k := 0) (n := 0) (Nat.le_of_ble_eq_true rfl) (Nat.le_of_ble_eq_true rfl) ?_
  obtain rfl : r_3 = 0 := hw
  have hP9 := hP.sub (ws' := [(h0, .inr (9, [.ref qm, .ref qt, .ref qw, .ref qc, .ref qb, .ref qg, .int 0, .int 0, .int 0, .int 0, .int 0]))]) [0] rfl
  have hD9 := hD.sub (ws' := [(h0, .inr (9, [.ref qm, .ref qt, .ref qw, .ref qc, .ref qb, .ref qg, .int 0, .int 0, .int 0, .int 0, .int 0]))]) [0] (by decide) rfl
  have hK9 := hK.sub (tys' := []) [] rfl
  refine W.widen (k := 0) (n := 0) (Nat.le_of_ble_eq_true rfl) (Nat.le_of_ble_eq_true rfl) ?_
  exact W.iret (v := 0) hx hb hr (fun t ht hW => ⟨⟨0, (), rfl, rfl, ⟨by rw [ht]; exact hP9, va_K.moved hW.alike hK9, hD9⟩⟩, hS.F ht⟩) hS.2.2 dX7_many_103

def zs_c_X7_meanStop : List Cond := .code yX7_meanStop cX7_meanStop 5 (some .double) :: (([.fieldLink RX7 148 "Haltingale" "machineCount" "I"] : List Cond) ++ wsX70)
set_option maxHeartbeats 4000000 in
set_option maxRecDepth 100000 in
/-- no mean -/
theorem c_X7_meanStop (l : Launch) (hnt : l.stackTraces = false) (dC : Nat → ClassId) (dI : Nat → Nat → Nat) (a0 : Nat) (h0 : Nat) (qm : Nat) (qt : Nat) (qw : Nat) (qc : Nat) (qb : Nat) (qg : Nat) (sz : Nat)  : Met l yX7_meanStop zs_c_X7_meanStop ({ frames := 0, cells := 0, slots := 0, locals := 0 }) (va_Pc [.ref h0] (fun U => U.heap.size = sz ∧ va_P (dC, dI) vwCl [(h0, .inr (9, [.ref qm, .ref qt, .ref qw, .ref qc, .ref qb, .ref qg, .int 0, .int 0, .int 0, .int 0, .int 0]))] U.heap ∧ va_K (dC, dI) vwCl [] U ∧ va_D (fun _ => True) [(h0, .inr (9, [.ref qm, .ref qt, .ref qw, .ref qc, .ref qb, .ref qg, .int 0, .int 0, .int 0, .int 0, .int 0]))] ∧ zB a0 (va_A [(h0, .inr (9, [.ref qm, .ref qt, .ref qw, .ref qc, .ref qb, .ref qg, .int 0, .int 0, .int 0, .int 0, .int 0]))] sz) U U.heap)) (va_Qd (fun (r : UInt64) (_ : Unit) => r = FP.dconst0) (fun _ t => va_P (dC, dI) vwCl [] t.heap ∧ va_K (dC, dI) vwCl [] t ∧ va_D (va_A [(h0, .inr (9, [.ref qm, .ref qt, .ref qw, .ref qc, .ref qb, .ref qg, .int 0, .int 0, .int 0, .int 0, .int 0]))] sz) []) (va_A [(h0, .inr (9, [.ref qm, .ref qt, .ref qw, .ref qc, .ref qb, .ref qg, .int 0, .int 0, .int 0, .int 0, .int 0]))] sz)) 0 0 (va_A [(h0, .inr (9, [.ref qm, .ref qt, .ref qw, .ref qc, .ref qb, .ref qg, .int 0, .int 0, .int 0, .int 0, .int 0]))] sz) := by
  refine Met.ofW (cc := cX7_meanStop) (maxL := 5) (ret := (some .double)) (by decide) rfl ?_
  intro p e s m args below meth c s₁ B hml hv
  obtain ⟨rfl, hsz, hP, hK, hD0, hZ⟩ := hv
  have hx := B.exec
  have hb := B.bytes
  have hr := B.returns
  have hts := atoms_spec (ws := zs_c_X7_meanStop) B.pre
  have hown : s.vm.findClass RX7 = some m.cls := findClass_of_methodNamed B.named
  have hlocks := B.notSynchronized
  have hiX7 : ∀ w ∈ wsX70, w ∈ zs_c_X7_meanStop := by decide +kernel
  subst hsz
  have hD := hD0.self (sz := s.heap.size)
  generalize hAe : va_A [(h0, .inr (9, [.ref qm, .ref qt, .ref qw, .ref qc, .ref qb, .ref qg, .int 0, .int 0, .int 0, .int 0, .int 0]))] s.heap.size = A at hD hZ ⊢
  have hA : ∀ q : Nat, s.heap.size ≤ q → A q := fun q h => by rw [← hAe]; exact Or.inr h
  have hS : va_S A s.heap s.heap [] := va_S.rf
  have hl := lv_entry ([.ref h0]) (n := 5) (Nat.le_of_ble_eq_true rfl)
  rw [lg_entry_eq]
  generalize (lg_sl ([.ref h0]) ++ List.replicate (5 - (lg_sl ([.ref h0])).length) Slot.unset).toArray = ls at hl ⊢
  have hl : lv_has ls 5 [(0, .ref h0)] := hl
  refine lv_iconst (v := 0) hx hb dX7_meanStop_0 (by decide) ?_
  refine lv_istore_n (lv' := [(1, .int 0), (0, .ref h0)]) hx hb dX7_meanStop_1 rfl hl (by decide) rfl (fun ls hl => ?_)
  refine lv_iconst (v := 0) hx hb dX7_meanStop_2 (by decide) ?_
  refine lv_istore_n (lv' := [(2, .int 0), (1, .int 0), (0, .ref h0)]) hx hb dX7_meanStop_3 rfl hl (by decide) rfl (fun ls hl => ?_)
  refine lv_iconst (v := 0) hx hb dX7_meanStop_4 (by decide) ?_
  refine lv_istore_n (lv' := [(3, .int 0), (2, .int 0), (1, .int 0), (0, .ref h0)]) hx hb dX7_meanStop_5 rfl hl (by decide) rfl (fun ls hl => ?_)
  refine lv_iload_n hx hb dX7_meanStop_6 rfl (lv_at hl 0 rfl) ?_
  refine lv_aload_n hx hb dX7_meanStop_7 rfl (lv_at hl 3 rfl) ?_
  refine va_get (D := (dC, dI)) (ci := 9) (v := .int 0) (C := RX7) (T := TX7) (N := 11) hx hb hts hiX7 hown hK hP 0 rfl rfl 6 (by decide) (hts (.fieldLink RX7 148 "Haltingale" "machineCount" "I") (by decide +kernel)) (fun _ h9 => h9) rfl dX7_meanStop_8 ?_
  refine lv_icmp_ge (tgt := 46) hx hb dX7_meanStop_11 (by decide) (fun c_1 => ?_) (fun c_1 => ?_)
  rotate_left
  · (first | exact absurd c_1 (by decide) | exact absurd (by decide) c_1)
  refine lv_iload_n hx hb dX7_meanStop_46 rfl (lv_at hl 1 rfl) ?_
  refine lv_if_ne (tgt := 54) hx hb dX7_meanStop_47 (by decide) (fun c_2 => ?_) (fun c_2 => ?_)
  · (first | exact absurd c_2 (by decide) | exact absurd (by decide) c_2)
  refine lv_dconst0 hx hb dX7_meanStop_50 ?_
  refine lv_goto (tgt := 59) hx hb dX7_meanStop_51 (by decide) ?_
  have hP9 := hP.sub (ws' := []) [] rfl
  have hD9 := hD.sub (ws' := []) [] (by decide) rfl
  have hK9 := hK.sub (tys' := []) [] rfl
  refine W.widen (k := 0) (n := 0) (Nat.le_of_ble_eq_true rfl) (Nat.le_of_ble_eq_true rfl) ?_
  exact W.dret (v := FP.dconst0) hx hb hr (fun t ht hW => ⟨⟨FP.dconst0, (), rfl, rfl, ⟨by rw [ht]; exact hP9, va_K.moved hW.alike hK9, hD9⟩⟩, hS.F ht⟩) hS.2.2 dX7_meanStop_59

def zs_c_X7_tag_no1 : List Cond := .code yX7_tag cX7_tag 4 (some .int) :: (([.code yX7_isWithin cX7_isWithin 3 (some .boolean), .methodLink RX7 49 yX7_isWithin, .static yX7_isWithin, .initialized RX7, .code yX7_require cX7_require 1 none, .classLink RX7 292 "java/lang/IllegalArgumentException", .initialized "java/lang/IllegalArgumentException", .methodLink RX7 53 yX7_require, .static yX7_require] : List Cond) ++ (vx_atS RX7 296 "java/lang/IllegalArgumentException" ["java/lang/RuntimeException", "java/lang/Exception"]).filter goodWord)
set_option maxHeartbeats 4000000 in
set_option maxRecDepth 100000 in
/-- tag, out of its range -/
theorem c_X7_tag_no1 (l : Launch) (hnt : l.stackTraces = false) (dC : Nat → ClassId) (dI : Nat → Nat → Nat) (a0 : Nat) (h0 : Nat) (qm : Nat) (qt : Nat) (qw : Nat) (qc : Nat) (qb : Nat) (qg : Nat) (p0 : Int32) (p1 : Int32) (p2 : Int32) (sz : Nat) (hp0 : zw p0 1 3 = 0) : vx_Met l yX7_tag zs_c_X7_tag_no1 ({ frames := 7, cells := 1, slots := 6, locals := 102 }) (va_Pc [.ref h0, .int p0, .int p1, .int p2] (fun U => U.heap.size = sz ∧ va_P (dC, dI) vwCl [(h0, .inr (9, [.ref qm, .ref qt, .ref qw, .ref qc, .ref qb, .ref qg, .int 0, .int 0, .int 0, .int 0, .int 0]))] U.heap ∧ va_K (dC, dI) vwCl [] U ∧ va_D (fun _ => True) [(h0, .inr (9, [.ref qm, .ref qt, .ref qw, .ref qc, .ref qb, .ref qg, .int 0, .int 0, .int 0, .int 0, .int 0]))] ∧ zB a0 (va_A [(h0, .inr (9, [.ref qm, .ref qt, .ref qw, .ref qc, .ref qb, .ref qg, .int 0, .int 0, .int 0, .int 0, .int 0]))] sz) U U.heap)) (va_Qi (fun (r : Int32) (_ : Unit) => True) (fun _ t => False) (va_A [(h0, .inr (9, [.ref qm, .ref qt, .ref qw, .ref qc, .ref qb, .ref qg, .int 0, .int 0, .int 0, .int 0, .int 0]))] sz)) (vx_X (fun _ : Unit => True) (fun E _ _ => E = "java/lang/IllegalArgumentException") (va_A [(h0, .inr (9, [.ref qm, .ref qt, .ref qw, .ref qc, .ref qb, .ref qg, .int 0, .int 0, .int 0, .int 0, .int 0]))] sz)) 1 6 (va_A [(h0, .inr (9, [.ref qm, .ref qt, .ref qw, .ref qc, .ref qb, .ref qg, .int 0, .int 0, .int 0, .int 0, .int 0]))] sz) := by
  refine vx_ofW (cc := cX7_tag) (maxL := 4) (ret := (some .int)) (by decide) rfl ?_
  intro p e s m args below meth c s₁ B hml hout hv
  obtain ⟨rfl, hsz, hP, hK, hD0, hZ⟩ := hv
  have hx := B.exec
  have hb := B.bytes
  have hr := B.returns
  have hts := atoms_spec (ws := zs_c_X7_tag_no1) B.pre
  have hown : s.vm.findClass RX7 = some m.cls := findClass_of_methodNamed B.named
  have hlocks := B.notSynchronized
  subst hsz
  have hD := hD0.self (sz := s.heap.size)
  generalize hAe : va_A [(h0, .inr (9, [.ref qm, .ref qt, .ref qw, .ref qc, .ref qb, .ref qg, .int 0, .int 0, .int 0, .int 0, .int 0]))] s.heap.size = A at hD hZ ⊢
  have hA : ∀ q : Nat, s.heap.size ≤ q → A q := fun q h => by rw [← hAe]; exact Or.inr h
  have hS : va_S A s.heap s.heap [] := va_S.rf
  have hl := lv_entry ([.ref h0, .int p0, .int p1, .int p2]) (n := 4) (Nat.le_of_ble_eq_true rfl)
  rw [lg_entry_eq]
  generalize (lg_sl ([.ref h0, .int p0, .int p1, .int p2]) ++ List.replicate (4 - (lg_sl ([.ref h0, .int p0, .int p1, .int p2])).length) Slot.unset).toArray = ls at hl ⊢
  have hl : lv_has ls 4 [(0, .ref h0), (1, .int p0), (2, .int p1), (3, .int p2)] := hl
  refine lv_iload_n hx hb dX7_tag_0 rfl (lv_at hl 1 rfl) ?_
  refine lv_iconst (v := 1) hx hb dX7_tag_1 (by decide) ?_
  refine lv_iconst (v := 3) hx hb dX7_tag_2 (by decide) ?_
  have hPc := hP.sub (ws' := []) [] rfl
  have hDc := hD.sub (ws' := []) [] (by decide) rfl
  have hKc := hK.sub (tys' := []) [] rfl
  have hFc := va_free (wc := []) hD hS hA [] rfl
  have hZc := ((hZ.kept hS.2.1).narrow hFc)
  refine va_calli (va_runS (As := [.int p0, .int 1, .int 3]) (rest := []) ⟨hx, hb, hml, hown, hts⟩ (c_X7_isWithin l hnt dC dI a0 p0 1 3 s.heap.size ) (va_cwS 3 hts (goodIn_of _ (by decide +kernel)) rfl rfl rfl (by decide +kernel) ⟨Nat.le_of_ble_eq_true rfl, Nat.le_of_ble_eq_true rfl⟩) ⟨fun a U g mk q => by obtain ⟨q0, q1, qP, qK, qD, qZ⟩ := q; exact ⟨q0, q1, qP, va_K.moved (u := U) (U := U.calling g mk a) (Vm.Alike.refl U.vm) qK, qD, qZ.call⟩, fun U hU hW => ⟨rfl, by rw [hU], by rw [hU]; exact hPc, va_K.moved hW.alike hKc, hDc.weaken (fun _ _ _ _ => trivial), by rw [hU]; exact hZc.warm hW⟩⟩ rfl rfl hl.1 rfl (lv_room (Nat.le_of_ble_eq_true rfl)) dX7_tag_3 ⟨Nat.le_of_ble_eq_true rfl, Nat.le_of_ble_eq_true rfl⟩) hS (fun q _ h => hFc q h) hFc (fun r_1 u t H1 locs ht hvm hw hB hz1 hk1 hS => ?_)
  obtain ⟨hP1, hK1, hD1⟩ := hB
  rw [ht] at hP1
  have hK1 := va_K.moved hvm.symm hK1
  obtain ⟨hP, hD⟩ := va_join (wr := [(h0, .inr (9, [.ref qm, .ref qt, .ref qw, .ref qc, .ref qb, .ref qg, .int 0, .int 0, .int 0, .int 0, .int 0]))]) (w1 := []) hP hD [] [0] rfl rfl (by decide) (by decide) hk1 hFc hP1 hD1
  have hK := (hK.sub (tys' := []) [] rfl).app hK1
  generalize H1 = H at hP hS ⊢
  have hP : va_P (dC, dI) vwCl [(h0, .inr (9, [.ref qm, .ref qt, .ref qw, .ref qc, .ref qb, .ref qg, .int 0, .int 0, .int 0, .int 0, .int 0]))] H := hP
  have hD : va_D A [(h0, .inr (9, [.ref qm, .ref qt, .ref qw, .ref qc, .ref qb, .ref qg, .int 0, .int 0, .int 0, .int 0, .int 0]))] := hD
  have hK : va_K (dC, dI) vwCl [] s := hK
  refine W.widen (k := 0) (n := 0) (Nat.le_of_ble_eq_true rfl) (Nat.le_of_ble_eq_true rfl) ?_
  obtain rfl : r_1 = 0 := hw.trans (hp0)
  have hPc := hP.sub (ws' := []) [] rfl
  have hDc := hD.sub (ws' := []) [] (by decide) rfl
  have hKc := hK.sub (tys' := []) [] rfl
  have hFc := va_free (wc := []) hD hS hA [] rfl
  have hZc := ((hZ.kept hS.2.1).narrow hFc)
  refine vx_callv (vx_runS (As := [.int 0]) (rest := []) ⟨hx, hb, hml, hown, hts⟩ (c_X7_require_no l hnt dC dI a0  H.size ) (va_cwS 1 hts (goodIn_of _ (by decide +kernel)) rfl rfl rfl (by decide +kernel) ⟨Nat.le_of_ble_eq_true rfl, Nat.le_of_ble_eq_true rfl⟩) ⟨fun a U g mk q => by obtain ⟨q0, q1, qP, qK, qD, qZ⟩ := q; exact ⟨q0, q1, qP, va_K.moved (u := U) (U := U.calling g mk a) (Vm.Alike.refl U.vm) qK, qD, qZ.call⟩, fun U hU hW => ⟨rfl, by rw [hU], by rw [hU]; exact hPc, va_K.moved hW.alike hKc, hDc.weaken (fun _ _ _ _ => trivial), by rw [hU]; exact hZc.warm hW⟩⟩ rfl rfl hl.1 rfl (lv_room (Nat.le_of_ble_eq_true rfl)) dX7_tag_6 ⟨Nat.le_of_ble_eq_true rfl, Nat.le_of_ble_eq_true rfl⟩) hS (fun q _ h => hFc q h) hFc (fun q _ h => hFc q h) (fun E ce q9 u t H1 locs ht hvm hw hB hz1 hk1 hS hce hcv hcl => ?_) (fun u t H1 locs ht hvm hw hB hz1 hk1 hS => ?_)
  · have hE := hB
    exact vx_out (fun x h => (hout x h).elim) hlocks hce hcv hcl (fun t2 ht2 hW2 => ⟨(), trivial, hE, hS.F ht2⟩) hS.2.2 (Nat.le_of_ble_eq_true rfl) (Nat.le_of_ble_eq_true rfl)
  exact hB.elim

def zs_c_X7_tag_no2 : List Cond := .code yX7_tag cX7_tag 4 (some .int) :: (([.code yX7_isWithin cX7_isWithin 3 (some .boolean), .methodLink RX7 49 yX7_isWithin, .static yX7_isWithin, .initialized RX7, .code yX7_require cX7_require 1 none, .methodLink RX7 53 yX7_require, .static yX7_require, .classLink RX7 292 "java/lang/IllegalArgumentException", .initialized "java/lang/IllegalArgumentException"] : List Cond) ++ (vx_atS RX7 296 "java/lang/IllegalArgumentException" ["java/lang/RuntimeException", "java/lang/Exception"]).filter goodWord)
set_option maxHeartbeats 4000000 in
set_option maxRecDepth 100000 in
/-- tag, out of its range -/
theorem c_X7_tag_no2 (l : Launch) (hnt : l.stackTraces = false) (dC : Nat → ClassId) (dI : Nat → Nat → Nat) (a0 : Nat) (h0 : Nat) (qm : Nat) (qt : Nat) (qw : Nat) (qc : Nat) (qb : Nat) (qg : Nat) (p0 : Int32) (p1 : Int32) (p2 : Int32) (sz : Nat) (hp0 : zw p0 1 3 = 1) (hp1 : zw p1 1 63 = 0) : vx_Met l yX7_tag zs_c_X7_tag_no2 ({ frames := 7, cells := 1, slots := 6, locals := 102 }) (va_Pc [.ref h0, .int p0, .int p1, .int p2] (fun U => U.heap.size = sz ∧ va_P (dC, dI) vwCl [(h0, .inr (9, [.ref qm, .ref qt, .ref qw, .ref qc, .ref qb, .ref qg, .int 0, .int 0, .int 0, .int 0, .int 0]))] U.heap ∧ va_K (dC, dI) vwCl [] U ∧ va_D (fun _ => True) [(h0, .inr (9, [.ref qm, .ref qt, .ref qw, .ref qc, .ref qb, .ref qg, .int 0, .int 0, .int 0, .int 0, .int 0]))] ∧ zB a0 (va_A [(h0, .inr (9, [.ref qm, .ref qt, .ref qw, .ref qc, .ref qb, .ref qg, .int 0, .int 0, .int 0, .int 0, .int 0]))] sz) U U.heap)) (va_Qi (fun (r : Int32) (_ : Unit) => True) (fun _ t => False) (va_A [(h0, .inr (9, [.ref qm, .ref qt, .ref qw, .ref qc, .ref qb, .ref qg, .int 0, .int 0, .int 0, .int 0, .int 0]))] sz)) (vx_X (fun _ : Unit => True) (fun E _ _ => E = "java/lang/IllegalArgumentException") (va_A [(h0, .inr (9, [.ref qm, .ref qt, .ref qw, .ref qc, .ref qb, .ref qg, .int 0, .int 0, .int 0, .int 0, .int 0]))] sz)) 1 6 (va_A [(h0, .inr (9, [.ref qm, .ref qt, .ref qw, .ref qc, .ref qb, .ref qg, .int 0, .int 0, .int 0, .int 0, .int 0]))] sz) := by
  refine vx_ofW (cc := cX7_tag) (maxL := 4) (ret := (some .int)) (by decide) rfl ?_
  intro p e s m args below meth c s₁ B hml hout hv
  obtain ⟨rfl, hsz, hP, hK, hD0, hZ⟩ := hv
  have hx := B.exec
  have hb := B.bytes
  have hr := B.returns
  have hts := atoms_spec (ws := zs_c_X7_tag_no2) B.pre
  have hown : s.vm.findClass RX7 = some m.cls := findClass_of_methodNamed B.named
  have hlocks := B.notSynchronized
  subst hsz
  have hD := hD0.self (sz := s.heap.size)
  generalize hAe : va_A [(h0, .inr (9, [.ref qm, .ref qt, .ref qw, .ref qc, .ref qb, .ref qg, .int 0, .int 0, .int 0, .int 0, .int 0]))] s.heap.size = A at hD hZ ⊢
  have hA : ∀ q : Nat, s.heap.size ≤ q → A q := fun q h => by rw [← hAe]; exact Or.inr h
  have hS : va_S A s.heap s.heap [] := va_S.rf
  have hl := lv_entry ([.ref h0, .int p0, .int p1, .int p2]) (n := 4) (Nat.le_of_ble_eq_true rfl)
  rw [lg_entry_eq]
  generalize (lg_sl ([.ref h0, .int p0, .int p1, .int p2]) ++ List.replicate (4 - (lg_sl ([.ref h0, .int p0, .int p1, .int p2])).length) Slot.unset).toArray = ls at hl ⊢
  have hl : lv_has ls 4 [(0, .ref h0), (1, .int p0), (2, .int p1), (3, .int p2)] := hl
  refine lv_iload_n hx hb dX7_tag_0 rfl (lv_at hl 1 rfl) ?_
  refine lv_iconst (v := 1) hx hb dX7_tag_1 (by decide) ?_
  refine lv_iconst (v := 3) hx hb dX7_tag_2 (by decide) ?_
  have hPc := hP.sub (ws' := []) [] rfl
  have hDc := hD.sub (ws' := []) [] (by decide) rfl
  have hKc := hK.sub (tys' := []) [] rfl
  have hFc := va_free (wc := []) hD hS hA [] rfl
  have hZc := ((hZ.kept hS.2.1).narrow hFc)
  refine va_calli (va_runS (As := [.int p0, .int 1, .int 3]) (rest := []) ⟨hx, hb, hml, hown, hts⟩ (c_X7_isWithin l hnt dC dI a0 p0 1 3 s.heap.size ) (va_cwS 3 hts (goodIn_of _ (by decide +kernel)) rfl rfl rfl (by decide +kernel) ⟨Nat.le_of_ble_eq_true rfl, Nat.le_of_ble_eq_true rfl⟩) ⟨fun a U g mk q => by obtain ⟨q0, q1, qP, qK, qD, qZ⟩ := q; exact ⟨q0, q1, qP, va_K.moved (u := U) (U := U.calling g mk a) (Vm.Alike.refl U.vm) qK, qD, qZ.call⟩, fun U hU hW => ⟨rfl, by rw [hU], by rw [hU]; exact hPc, va_K.moved hW.alike hKc, hDc.weaken (fun _ _ _ _ => trivial), by rw [hU]; exact hZc.warm hW⟩⟩ rfl rfl hl.1 rfl (lv_room (Nat.le_of_ble_eq_true rfl)) dX7_tag_3 ⟨Nat.le_of_ble_eq_true rfl, Nat.le_of_ble_eq_true rfl⟩) hS (fun q _ h => hFc q h) hFc (fun r_1 u t H1 locs ht hvm hw hB hz1 hk1 hS => ?_)
  obtain ⟨hP1, hK1, hD1⟩ := hB
  rw [ht] at hP1
  have hK1 := va_K.moved hvm.symm hK1
  obtain ⟨hP, hD⟩ := va_join (wr := [(h0, .inr (9, [.ref qm, .ref qt, .ref qw, .ref qc, .ref qb, .ref qg, .int 0, .int 0, .int 0, .int 0, .int 0]))]) (w1 := []) hP hD [] [0] rfl rfl (by decide) (by decide) hk1 hFc hP1 hD1
  have hK := (hK.sub (tys' := []) [] rfl).app hK1
  generalize H1 = H at hP hS ⊢
  have hP : va_P (dC, dI) vwCl [(h0, .inr (9, [.ref qm, .ref qt, .ref qw, .ref qc, .ref qb, .ref qg, .int 0, .int 0, .int 0, .int 0, .int 0]))] H := hP
  have hD : va_D A [(h0, .inr (9, [.ref qm, .ref qt, .ref qw, .ref qc, .ref qb, .ref qg, .int 0, .int 0, .int 0, .int 0, .int 0]))] := hD
  have hK : va_K (dC, dI) vwCl [] s := hK
  refine W.widen (k := 0) (n := 0) (Nat.le_of_ble_eq_true rfl) (Nat.le_of_ble_eq_true rfl) ?_
  obtain rfl : r_1 = 1 := hw.trans (hp0)
  have hPc := hP.sub (ws' := []) [] rfl
  have hDc := hD.sub (ws' := []) [] (by decide) rfl
  have hKc := hK.sub (tys' := []) [] rfl
  have hFc := va_free (wc := []) hD hS hA [] rfl
  have hZc := ((hZ.kept hS.2.1).narrow hFc)
  refine va_callv (va_runS (As := [.int 1]) (rest := []) ⟨hx, hb, hml, hown, hts⟩ (c_X7_require_ok l hnt dC dI a0  H.size ) (va_cwS 1 hts (goodIn_of _ (by decide +kernel)) rfl rfl rfl (by decide +kernel) ⟨Nat.le_of_ble_eq_true rfl, Nat.le_of_ble_eq_true rfl⟩) ⟨fun a U g mk q => by obtain ⟨q0, q1, qP, qK, qD, qZ⟩ := q; exact ⟨q0, q1, qP, va_K.moved (u := U) (U := U.calling g mk a) (Vm.Alike.refl U.vm) qK, qD, qZ.call⟩, fun U hU hW => ⟨rfl, by rw [hU], by rw [hU]; exact hPc, va_K.moved hW.alike hKc, hDc.weaken (fun _ _ _ _ => trivial), by rw [hU]; exact hZc.warm hW⟩⟩ rfl rfl hl.1 rfl (lv_room (Nat.le_of_ble_eq_true rfl)) dX7_tag_6 ⟨Nat.le_of_ble_eq_true rfl, Nat.le_of_ble_eq_true rfl⟩) hS (fun q _ h => hFc q h) hFc (fun u t H1 locs ht hvm hw hB hz1 hk1 hS => ?_)
  obtain ⟨hP1, hK1, hD1⟩ := hB
  rw [ht] at hP1
  have hK1 := va_K.moved hvm.symm hK1
  obtain ⟨hP, hD⟩ := va_join (wr := [(h0, .inr (9, [.ref qm, .ref qt, .ref qw, .ref qc, .ref qb, .ref qg, .int 0, .int 0, .int 0, .int 0, .int 0]))]) (w1 := []) hP hD [] [0] rfl rfl (by decide) (by decide) hk1 hFc hP1 hD1
  have hK := (hK.sub (tys' := []) [] rfl).app hK1
  generalize H1 = H at hP hS ⊢
  have hP : va_P (dC, dI) vwCl [(h0, .inr (9, [.ref qm, .ref qt, .ref qw, .ref qc, .ref qb, .ref qg, .int 0, .int 0, .int 0, .int 0, .int 0]))] H := hP
  have hD : va_D A [(h0, .inr (9, [.ref qm, .ref qt, .ref qw, .ref qc, .ref qb, .ref qg, .int 0, .int 0, .int 0, .int 0, .int 0]))] := hD
  have hK : va_K (dC, dI) vwCl [] s := hK
  refine W.widen (k := 0) (n := 0) (Nat.le_of_ble_eq_true rfl) (Nat.le_of_ble_eq_true rfl) ?_
  refine lv_iload_n hx hb dX7_tag_9 rfl (lv_at hl 2 rfl) ?_
  refine lv_iconst (v := 1) hx hb dX7_tag_10 (by decide) ?_
  refine lv_bipush (v := 63) hx hb dX7_tag_11 (by decide) ?_
  have hPc := hP.sub (ws' := []) [] rfl
  have hDc := hD.sub (ws' := []) [] (by decide) rfl
  have hKc := hK.sub (tys' := []) [] rfl
  have hFc := va_free (wc := []) hD hS hA [] rfl
  have hZc := ((hZ.kept hS.2.1).narrow hFc)
  refine va_calli (va_runS (As := [.int p1, .int 1, .int 63]) (rest := []) ⟨hx, hb, hml, hown, hts⟩ (c_X7_isWithin l hnt dC dI a0 p1 1 63 H.size ) (va_cwS 3 hts (goodIn_of _ (by decide +kernel)) rfl rfl rfl (by decide +kernel) ⟨Nat.le_of_ble_eq_true rfl, Nat.le_of_ble_eq_true rfl⟩) ⟨fun a U g mk q => by obtain ⟨q0, q1, qP, qK, qD, qZ⟩ := q; exact ⟨q0, q1, qP, va_K.moved (u := U) (U := U.calling g mk a) (Vm.Alike.refl U.vm) qK, qD, qZ.call⟩, fun U hU hW => ⟨rfl, by rw [hU], by rw [hU]; exact hPc, va_K.moved hW.alike hKc, hDc.weaken (fun _ _ _ _ => trivial), by rw [hU]; exact hZc.warm hW⟩⟩ rfl rfl hl.1 rfl (lv_room (Nat.le_of_ble_eq_true rfl)) dX7_tag_13 ⟨Nat.le_of_ble_eq_true rfl, Nat.le_of_ble_eq_true rfl⟩) hS (fun q _ h => hFc q h) hFc (fun r_3 u t H1 locs ht hvm hw hB hz1 hk1 hS => ?_)
  obtain ⟨hP1, hK1, hD1⟩ := hB
  rw [ht] at hP1
  have hK1 := va_K.moved hvm.symm hK1
  obtain ⟨hP, hD⟩ := va_join (wr := [(h0, .inr (9, [.ref qm, .ref qt, .ref qw, .ref qc, .ref qb, .ref qg, .int 0, .int 0, .int 0, .int 0, .int 0]))]) (w1 := []) hP hD [] [0] rfl rfl (by decide) (by decide) hk1 hFc hP1 hD1
  have hK := (hK.sub (tys' := []) [] rfl).app hK1
  generalize H1 = H at hP hS ⊢
  have hP : va_P (dC, dI) vwCl [(h0, .inr (9, [.ref qm, .ref qt, .ref qw, .ref qc, .ref qb, .ref qg, .int 0, .int 0, .int 0, .int 0, .int 0]))] H := hP
  have hD : va_D A [(h0, .inr (9, [.ref qm, .ref qt, .ref qw, .ref qc, .ref qb, .ref qg, .int 0, .int 0, .int 0, .int 0, .int 0]))] := hD
  have hK : va_K (dC, dI) vwCl [] s := hK
  refine W.widen (k := 0) (n := 0) (Nat.le_of_ble_eq_true rfl) (Nat.le_of_ble_eq_true rfl) ?_
  obtain rfl : r_3 = 0 := hw.trans (hp1)
  refine lv_if_eq (tgt := 33) hx hb dX7_tag_16 (by decide) (fun c_4 => ?_) (fun c_4 => ?_)
  rotate_left
  · (first | exact absurd c_4 (by decide) | exact absurd (by decide) c_4)
  refine lv_iconst (v := 0) hx hb dX7_tag_33 (by decide) ?_
  have hPc := hP.sub (ws' := []) [] rfl
  have hDc := hD.sub (ws' := []) [] (by decide) rfl
  have hKc := hK.sub (tys' := []) [] rfl
  have hFc := va_free (wc := []) hD hS hA [] rfl
  have hZc := ((hZ.kept hS.2.1).narrow hFc)
  refine vx_callv (vx_runS (As := [.int 0]) (rest := []) ⟨hx, hb, hml, hown, hts⟩ (c_X7_require_no l hnt dC dI a0  H.size ) (va_cwS 1 hts (goodIn_of _ (by decide +kernel)) rfl rfl rfl (by decide +kernel) ⟨Nat.le_of_ble_eq_true rfl, Nat.le_of_ble_eq_true rfl⟩) ⟨fun a U g mk q => by obtain ⟨q0, q1, qP, qK, qD, qZ⟩ := q; exact ⟨q0, q1, qP, va_K.moved (u := U) (U := U.calling g mk a) (Vm.Alike.refl U.vm) qK, qD, qZ.call⟩, fun U hU hW => ⟨rfl, by rw [hU], by rw [hU]; exact hPc, va_K.moved hW.alike hKc, hDc.weaken (fun _ _ _ _ => trivial), by rw [hU]; exact hZc.warm hW⟩⟩ rfl rfl hl.1 rfl (lv_room (Nat.le_of_ble_eq_true rfl)) dX7_tag_34 ⟨Nat.le_of_ble_eq_true rfl, Nat.le_of_ble_eq_true rfl⟩) hS (fun q _ h => hFc q h) hFc (fun q _ h => hFc q h) (fun E ce q9 u t H1 locs ht hvm hw hB hz1 hk1 hS hce hcv hcl => ?_) (fun u t H1 locs ht hvm hw hB hz1 hk1 hS => ?_)
  · have hE := hB
    exact vx_out (fun x h => (hout x h).elim) hlocks hce hcv hcl (fun t2 ht2 hW2 => ⟨(), trivial, hE, hS.F ht2⟩) hS.2.2 (Nat.le_of_ble_eq_true rfl) (Nat.le_of_ble_eq_true rfl)
  exact hB.elim

def zs_c_X7_tag_no3 : List Cond := .code yX7_tag cX7_tag 4 (some .int) :: (([.code yX7_isWithin cX7_isWithin 3 (some .boolean), .methodLink RX7 49 yX7_isWithin, .static yX7_isWithin, .initialized RX7, .code yX7_require cX7_require 1 none, .methodLink RX7 53 yX7_require, .static yX7_require, .classLink RX7 292 "java/lang/IllegalArgumentException", .initialized "java/lang/IllegalArgumentException"] : List Cond) ++ (vx_atS RX7 296 "java/lang/IllegalArgumentException" ["java/lang/RuntimeException", "java/lang/Exception"]).filter goodWord)
set_option maxHeartbeats 4000000 in
set_option maxRecDepth 100000 in
/-- tag, out of its range -/
theorem c_X7_tag_no3 (l : Launch) (hnt : l.stackTraces = false) (dC : Nat → ClassId) (dI : Nat → Nat → Nat) (a0 : Nat) (h0 : Nat) (qm : Nat) (qt : Nat) (qw : Nat) (qc : Nat) (qb : Nat) (qg : Nat) (p0 : Int32) (p1 : Int32) (p2 : Int32) (sz : Nat) (hp0 : zw p0 1 3 = 1) (hp1 : zw p1 1 63 = 1) (hp2 : zw p2 1 63 = 0) : vx_Met l yX7_tag zs_c_X7_tag_no3 ({ frames := 7, cells := 1, slots := 6, locals := 102 }) (va_Pc [.ref h0, .int p0, .int p1, .int p2] (fun U => U.heap.size = sz ∧ va_P (dC, dI) vwCl [(h0, .inr (9, [.ref qm, .ref qt, .ref qw, .ref qc, .ref qb, .ref qg, .int 0, .int 0, .int 0, .int 0, .int 0]))] U.heap ∧ va_K (dC, dI) vwCl [] U ∧ va_D (fun _ => True) [(h0, .inr (9, [.ref qm, .ref qt, .ref qw, .ref qc, .ref qb, .ref qg, .int 0, .int 0, .int 0, .int 0, .int 0]))] ∧ zB a0 (va_A [(h0, .inr (9, [.ref qm, .ref qt, .ref qw, .ref qc, .ref qb, .ref qg, .int 0, .int 0, .int 0, .int 0, .int 0]))] sz) U U.heap)) (va_Qi (fun (r : Int32) (_ : Unit) => True) (fun _ t => False) (va_A [(h0, .inr (9, [.ref qm, .ref qt, .ref qw, .ref qc, .ref qb, .ref qg, .int 0, .int 0, .int 0, .int 0, .int 0]))] sz)) (vx_X (fun _ : Unit => True) (fun E _ _ => E = "java/lang/IllegalArgumentException") (va_A [(h0, .inr (9, [.ref qm, .ref qt, .ref qw, .ref qc, .ref qb, .ref qg, .int 0, .int 0, .int 0, .int 0, .int 0]))] sz)) 1 6 (va_A [(h0, .inr (9, [.ref qm, .ref qt, .ref qw, .ref qc, .ref qb, .ref qg, .int 0, .int 0, .int 0, .int 0, .int 0]))] sz) := by
  refine vx_ofW (cc := cX7_tag) (maxL := 4) (ret := (some .int)) (by decide) rfl ?_
  intro p e s m args below meth c s₁ B hml hout hv
  obtain ⟨rfl, hsz, hP, hK, hD0, hZ⟩ := hv
  have hx := B.exec
  have hb := B.bytes
  have hr := B.returns
  have hts := atoms_spec (ws := zs_c_X7_tag_no3) B.pre
  have hown : s.vm.findClass RX7 = some m.cls := findClass_of_methodNamed B.named
  have hlocks := B.notSynchronized
  subst hsz
  have hD := hD0.self (sz := s.heap.size)
  generalize hAe : va_A [(h0, .inr (9, [.ref qm, .ref qt, .ref qw, .ref qc, .ref qb, .ref qg, .int 0, .int 0, .int 0, .int 0, .int 0]))] s.heap.size = A at hD hZ ⊢
  have hA : ∀ q : Nat, s.heap.size ≤ q → A q := fun q h => by rw [← hAe]; exact Or.inr h
  have hS : va_S A s.heap s.heap [] := va_S.rf
  have hl := lv_entry ([.ref h0, .int p0, .int p1, .int p2]) (n := 4) (Nat.le_of_ble_eq_true rfl)
  rw [lg_entry_eq]
  generalize (lg_sl ([.ref h0, .int p0, .int p1, .int p2]) ++ List.replicate (4 - (lg_sl ([.ref h0, .int p0, .int p1, .int p2])).length) Slot.unset).toArray = ls at hl ⊢
  have hl : lv_has ls 4 [(0, .ref h0), (1, .int p0), (2, .int p1), (3, .int p2)] := hl
  refine lv_iload_n hx hb dX7_tag_0 rfl (lv_at hl 1 rfl) ?_
  refine lv_iconst (v := 1) hx hb dX7_tag_1 (by decide) ?_
  refine lv_iconst (v := 3) hx hb dX7_tag_2 (by decide) ?_
  have hPc := hP.sub (ws' := []) [] rfl
  have hDc := hD.sub (ws' := []) [] (by decide) rfl
  have hKc := hK.sub (tys' := []) [] rfl
  have hFc := va_free (wc := []) hD hS hA [] rfl
  have hZc := ((hZ.kept hS.2.1).narrow hFc)
  refine va_calli (va_runS (As := [.int p0, .int 1, .int 3]) (rest := []) ⟨hx, hb, hml, hown, hts⟩ (c_X7_isWithin l hnt dC dI a0 p0 1 3 s.heap.size ) (va_cwS 3 hts (goodIn_of _ (by decide +kernel)) rfl rfl rfl (by decide +kernel) ⟨Nat.le_of_ble_eq_true rfl, Nat.le_of_ble_eq_true rfl⟩) ⟨fun a U g mk q => by obtain ⟨q0, q1, qP, qK, qD, qZ⟩ := q; exact ⟨q0, q1, qP, va_K.moved (u := U) (U := U.calling g mk a) (Vm.Alike.refl U.vm) qK, qD, qZ.call⟩, fun U hU hW => ⟨rfl, by rw [hU], by rw [hU]; exact hPc, va_K.moved hW.alike hKc, hDc.weaken (fun _ _ _ _ => trivial), by rw [hU]; exact hZc.warm hW⟩⟩ rfl rfl hl.1 rfl (lv_room (Nat.le_of_ble_eq_true rfl)) dX7_tag_3 ⟨Nat.le_of_ble_eq_true rfl, Nat.le_of_ble_eq_true rfl⟩) hS (fun q _ h => hFc q h) hFc (fun r_1 u t H1 locs ht hvm hw hB hz1 hk1 hS => ?_)
  obtain ⟨hP1, hK1, hD1⟩ := hB
  rw [ht] at hP1
  have hK1 := va_K.moved hvm.symm hK1
  obtain ⟨hP, hD⟩ := va_join (wr := [(h0, .inr (9, [.ref qm, .ref qt, .ref qw, .ref qc, .ref qb, .ref qg, .int 0, .int 0, .int 0, .int 0, .int 0]))]) (w1 := []) hP hD [] [0] rfl rfl (by decide) (by decide) hk1 hFc hP1 hD1
  have hK := (hK.sub (tys' := []) [] rfl).app hK1
  generalize H1 = H at hP hS ⊢
  have hP : va_P (dC, dI) vwCl [(h0, .inr (9, [.ref qm, .ref qt, .ref qw, .ref qc, .ref qb, .ref qg, .int 0, .int 0, .int 0, .int 0, .int 0]))] H := hP
  have hD : va_D A [(h0, .inr (9, [.ref qm, .ref qt, .ref qw, .ref qc, .ref qb, .ref qg, .int 0, .int 0, .int 0, .int 0, .int 0]))] := hD
  have hK : va_K (dC, dI) vwCl [] s := hK
  refine W.widen (k := 0) (n := 0) (Nat.le_of_ble_eq_true rfl) (Nat.le_of_ble_eq_true rfl) ?_
  obtain rfl : r_1 = 1 := hw.trans (hp0)
  have hPc := hP.sub (ws' := []) [] rfl
  have hDc := hD.sub (ws' := []) [] (by decide) rfl
  have hKc := hK.sub (tys' := []) [] rfl
  have hFc := va_free (wc := []) hD hS hA [] rfl
  have hZc := ((hZ.kept hS.2.1).narrow hFc)
  refine va_callv (va_runS (As := [.int 1]) (rest := []) ⟨hx, hb, hml, hown, hts⟩ (c_X7_require_ok l hnt dC dI a0  H.size ) (va_cwS 1 hts (goodIn_of _ (by decide +kernel)) rfl rfl rfl (by decide +kernel) ⟨Nat.le_of_ble_eq_true rfl, Nat.le_of_ble_eq_true rfl⟩) ⟨fun a U g mk q => by obtain ⟨q0, q1, qP, qK, qD, qZ⟩ := q; exact ⟨q0, q1, qP, va_K.moved (u := U) (U := U.calling g mk a) (Vm.Alike.refl U.vm) qK, qD, qZ.call⟩, fun U hU hW => ⟨rfl, by rw [hU], by rw [hU]; exact hPc, va_K.moved hW.alike hKc, hDc.weaken (fun _ _ _ _ => trivial), by rw [hU]; exact hZc.warm hW⟩⟩ rfl rfl hl.1 rfl (lv_room (Nat.le_of_ble_eq_true rfl)) dX7_tag_6 ⟨Nat.le_of_ble_eq_true rfl, Nat.le_of_ble_eq_true rfl⟩) hS (fun q _ h => hFc q h) hFc (fun u t H1 locs ht hvm hw hB hz1 hk1 hS => ?_)
  obtain ⟨hP1, hK1, hD1⟩ := hB
  rw [ht] at hP1
  have hK1 := va_K.moved hvm.symm hK1
  obtain ⟨hP, hD⟩ := va_join (wr := [(h0, .inr (9, [.ref qm, .ref qt, .ref qw, .ref qc, .ref qb, .ref qg, .int 0, .int 0, .int 0, .int 0, .int 0]))]) (w1 := []) hP hD [] [0] rfl rfl (by decide) (by decide) hk1 hFc hP1 hD1
  have hK := (hK.sub (tys' := []) [] rfl).app hK1
  generalize H1 = H at hP hS ⊢
  have hP : va_P (dC, dI) vwCl [(h0, .inr (9, [.ref qm, .ref qt, .ref qw, .ref qc, .ref qb, .ref qg, .int 0, .int 0, .int 0, .int 0, .int 0]))] H := hP
  have hD : va_D A [(h0, .inr (9, [.ref qm, .ref qt, .ref qw, .ref qc, .ref qb, .ref qg, .int 0, .int 0, .int 0, .int 0, .int 0]))] := hD
  have hK : va_K (dC, dI) vwCl [] s := hK
  refine W.widen (k := 0) (n := 0) (Nat.le_of_ble_eq_true rfl) (Nat.le_of_ble_eq_true rfl) ?_
  refine lv_iload_n hx hb dX7_tag_9 rfl (lv_at hl 2 rfl) ?_
  refine lv_iconst (v := 1) hx hb dX7_tag_10 (by decide) ?_
  refine lv_bipush (v := 63) hx hb dX7_tag_11 (by decide) ?_
  have hPc := hP.sub (ws' := []) [] rfl
  have hDc := hD.sub (ws' := []) [] (by decide) rfl
  have hKc := hK.sub (tys' := []) [] rfl
  have hFc := va_free (wc := []) hD hS hA [] rfl
  have hZc := ((hZ.kept hS.2.1).narrow hFc)
  refine va_calli (va_runS (As := [.int p1, .int 1, .int 63]) (rest := []) ⟨hx, hb, hml, hown, hts⟩ (c_X7_isWithin l hnt dC dI a0 p1 1 63 H.size ) (va_cwS 3 hts (goodIn_of _ (by decide +kernel)) rfl rfl rfl (by decide +kernel) ⟨Nat.le_of_ble_eq_true rfl, Nat.le_of_ble_eq_true rfl⟩) ⟨fun a U g mk q => by obtain ⟨q0, q1, qP, qK, qD, qZ⟩ := q; exact ⟨q0, q1, qP, va_K.moved (u := U) (U := U.calling g mk a) (Vm.Alike.refl U.vm) qK, qD, qZ.call⟩, fun U hU hW => ⟨rfl, by rw [hU], by rw [hU]; exact hPc, va_K.moved hW.alike hKc, hDc.weaken (fun _ _ _ _ => trivial), by rw [hU]; exact hZc.warm hW⟩⟩ rfl rfl hl.1 rfl (lv_room (Nat.le_of_ble_eq_true rfl)) dX7_tag_13 ⟨Nat.le_of_ble_eq_true rfl, Nat.le_of_ble_eq_true rfl⟩) hS (fun q _ h => hFc q h) hFc (fun r_3 u t H1 locs ht hvm hw hB hz1 hk1 hS => ?_)
  obtain ⟨hP1, hK1, hD1⟩ := hB
  rw [ht] at hP1
  have hK1 := va_K.moved hvm.symm hK1
  obtain ⟨hP, hD⟩ := va_join (wr := [(h0, .inr (9, [.ref qm, .ref qt, .ref qw, .ref qc, .ref qb, .ref qg, .int 0, .int 0, .int 0, .int 0, .int 0]))]) (w1 := []) hP hD [] [0] rfl rfl (by decide) (by decide) hk1 hFc hP1 hD1
  have hK := (hK.sub (tys' := []) [] rfl).app hK1
  generalize H1 = H at hP hS ⊢
  have hP : va_P (dC, dI) vwCl [(h0, .inr (9, [.ref qm, .ref qt, .ref qw, .ref qc, .ref qb, .ref qg, .int 0, .int 0, .int 0, .int 0, .int 0]))] H := hP
  have hD : va_D A [(h0, .inr (9, [.ref qm, .ref qt, .ref qw, .ref qc, .ref qb, .ref qg, .int 0, .int 0, .int 0, .int 0, .int 0]))] := hD
  have hK : va_K (dC, dI) vwCl [] s := hK
  refine W.widen (k := 0) (n := 0) (Nat.le_of_ble_eq_true rfl) (Nat.le_of_ble_eq_true rfl) ?_
  obtain rfl : r_3 = 1 := hw.trans (hp1)
  refine lv_if_eq (tgt := 33) hx hb dX7_tag_16 (by decide) (fun c_4 => ?_) (fun c_4 => ?_)
  · (first | exact absurd c_4 (by decide) | exact absurd (by decide) c_4)
  refine lv_iload_n hx hb dX7_tag_19 rfl (lv_at hl 3 rfl) ?_
  refine lv_iconst (v := 1) hx hb dX7_tag_20 (by decide) ?_
  refine lv_bipush (v := 63) hx hb dX7_tag_21 (by decide) ?_
  have hPc := hP.sub (ws' := []) [] rfl
  have hDc := hD.sub (ws' := []) [] (by decide) rfl
  have hKc := hK.sub (tys' := []) [] rfl
  have hFc := va_free (wc := []) hD hS hA [] rfl
  have hZc := ((hZ.kept hS.2.1).narrow hFc)
  refine va_calli (va_runS (As := [.int p2, .int 1, .int 63]) (rest := []) ⟨hx, hb, hml, hown, hts⟩ (c_X7_isWithin l hnt dC dI a0 p2 1 63 H.size ) (va_cwS 3 hts (goodIn_of _ (by decide +kernel)) rfl rfl rfl (by decide +kernel) ⟨Nat.le_of_ble_eq_true rfl, Nat.le_of_ble_eq_true rfl⟩) ⟨fun a U g mk q => by obtain ⟨q0, q1, qP, qK, qD, qZ⟩ := q; exact ⟨q0, q1, qP, va_K.moved (u := U) (U := U.calling g mk a) (Vm.Alike.refl U.vm) qK, qD, qZ.call⟩, fun U hU hW => ⟨rfl, by rw [hU], by rw [hU]; exact hPc, va_K.moved hW.alike hKc, hDc.weaken (fun _ _ _ _ => trivial), by rw [hU]; exact hZc.warm hW⟩⟩ rfl rfl hl.1 rfl (lv_room (Nat.le_of_ble_eq_true rfl)) dX7_tag_23 ⟨Nat.le_of_ble_eq_true rfl, Nat.le_of_ble_eq_true rfl⟩) hS (fun q _ h => hFc q h) hFc (fun r_5 u t H1 locs ht hvm hw hB hz1 hk1 hS => ?_)
  obtain ⟨hP1, hK1, hD1⟩ := hB
  rw [ht] at hP1
  have hK1 := va_K.moved hvm.symm hK1
  obtain ⟨hP, hD⟩ := va_join (wr := [(h0, .inr (9, [.ref qm, .ref qt, .ref qw, .ref qc, .ref qb, .ref qg, .int 0, .int 0, .int 0, .int 0, .int 0]))]) (w1 := []) hP hD [] [0] rfl rfl (by decide) (by decide) hk1 hFc hP1 hD1
  have hK := (hK.sub (tys' := []) [] rfl).app hK1
  generalize H1 = H at hP hS ⊢
  have hP : va_P (dC, dI) vwCl [(h0, .inr (9, [.ref qm, .ref qt, .ref qw, .ref qc, .ref qb, .ref qg, .int 0, .int 0, .int 0, .int 0, .int 0]))] H := hP
  have hD : va_D A [(h0, .inr (9, [.ref qm, .ref qt, .ref qw, .ref qc, .ref qb, .ref qg, .int 0, .int 0, .int 0, .int 0, .int 0]))] := hD
  have hK : va_K (dC, dI) vwCl [] s := hK
  refine W.widen (k := 0) (n := 0) (Nat.le_of_ble_eq_true rfl) (Nat.le_of_ble_eq_true rfl) ?_
  obtain rfl : r_5 = 0 := hw.trans (hp2)
  refine lv_if_eq (tgt := 33) hx hb dX7_tag_26 (by decide) (fun c_6 => ?_) (fun c_6 => ?_)
  rotate_left
  · (first | exact absurd c_6 (by decide) | exact absurd (by decide) c_6)
  refine lv_iconst (v := 0) hx hb dX7_tag_33 (by decide) ?_
  have hPc := hP.sub (ws' := []) [] rfl
  have hDc := hD.sub (ws' := []) [] (by decide) rfl
  have hKc := hK.sub (tys' := []) [] rfl
  have hFc := va_free (wc := []) hD hS hA [] rfl
  have hZc := ((hZ.kept hS.2.1).narrow hFc)
  refine vx_callv (vx_runS (As := [.int 0]) (rest := []) ⟨hx, hb, hml, hown, hts⟩ (c_X7_require_no l hnt dC dI a0  H.size ) (va_cwS 1 hts (goodIn_of _ (by decide +kernel)) rfl rfl rfl (by decide +kernel) ⟨Nat.le_of_ble_eq_true rfl, Nat.le_of_ble_eq_true rfl⟩) ⟨fun a U g mk q => by obtain ⟨q0, q1, qP, qK, qD, qZ⟩ := q; exact ⟨q0, q1, qP, va_K.moved (u := U) (U := U.calling g mk a) (Vm.Alike.refl U.vm) qK, qD, qZ.call⟩, fun U hU hW => ⟨rfl, by rw [hU], by rw [hU]; exact hPc, va_K.moved hW.alike hKc, hDc.weaken (fun _ _ _ _ => trivial), by rw [hU]; exact hZc.warm hW⟩⟩ rfl rfl hl.1 rfl (lv_room (Nat.le_of_ble_eq_true rfl)) dX7_tag_34 ⟨Nat.le_of_ble_eq_true rfl, Nat.le_of_ble_eq_true rfl⟩) hS (fun q _ h => hFc q h) hFc (fun q _ h => hFc q h) (fun E ce q9 u t H1 locs ht hvm hw hB hz1 hk1 hS hce hcv hcl => ?_) (fun u t H1 locs ht hvm hw hB hz1 hk1 hS => ?_)
  · have hE := hB
    exact vx_out (fun x h => (hout x h).elim) hlocks hce hcv hcl (fun t2 ht2 hW2 => ⟨(), trivial, hE, hS.F ht2⟩) hS.2.2 (Nat.le_of_ble_eq_true rfl) (Nat.le_of_ble_eq_true rfl)
  exact hB.elim
