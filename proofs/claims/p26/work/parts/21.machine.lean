def zs_c_X3_writeOf : List Cond := .code yX3_writeOf cX3_writeOf 2 (some .int) :: (([.fieldLink RX3 15 "Haltingale$Machine" "writes" "[I"] : List Cond) ++ wsX30)
set_option maxHeartbeats 4000000 in
set_option maxRecDepth 100000 in
theorem c_X3_writeOf (l : Launch) (dC : Nat → ClassId) (dI : Nat → Nat → Nat) (cI cZ cM cT : ClassId) (sz : Nat) (am : Nat) (aw : Nat) (av : Nat) (ax : Nat) (T : pq_T) (kk : Int) (ka : Int) (kb : Int) (i : Int) (hi : -2147483648 ≤ i ∧ i ≤ 2147483647) : Met l yX3_writeOf zs_c_X3_writeOf ({ frames := 0, cells := 0, slots := 0, locals := 0 }) (va_Pc [.ref am, .int (zi i)] (fun U => U.heap.size = sz ∧ va_P (dC, dI) vwCl [(am, .inr (3, [.int (zi (pq_n T)), .ref aw, .ref av, .ref ax, .int (zi kk), .int (zi ka), .int (zi kb)])), (aw, .inl (cI, 8, .inl (zf (pq_w T)))), (av, .inl (cI, 8, .inl (zf (pq_v T)))), (ax, .inl (cI, 8, .inl (zf (pq_x T))))] U.heap ∧ va_K (dC, dI) vwCl (zT4 cI cZ cM cT) U ∧ va_D (fun _ => True) [(am, .inr (3, [.int (zi (pq_n T)), .ref aw, .ref av, .ref ax, .int (zi kk), .int (zi ka), .int (zi kb)])), (aw, .inl (cI, 8, .inl (zf (pq_w T)))), (av, .inl (cI, 8, .inl (zf (pq_v T)))), (ax, .inl (cI, 8, .inl (zf (pq_x T))))])) (va_Qi (fun (r : Int32) (_ : Unit) => r = zi (pq_wo T i)) (fun _ t => va_P (dC, dI) vwCl [(am, .inr (3, [.int (zi (pq_n T)), .ref aw, .ref av, .ref ax, .int (zi kk), .int (zi ka), .int (zi kb)])), (aw, .inl (cI, 8, .inl (zf (pq_w T)))), (av, .inl (cI, 8, .inl (zf (pq_v T)))), (ax, .inl (cI, 8, .inl (zf (pq_x T))))] t.heap ∧ va_K (dC, dI) vwCl (zT4 cI cZ cM cT) t ∧ va_D (va_A [(am, .inr (3, [.int (zi (pq_n T)), .ref aw, .ref av, .ref ax, .int (zi kk), .int (zi ka), .int (zi kb)])), (aw, .inl (cI, 8, .inl (zf (pq_w T)))), (av, .inl (cI, 8, .inl (zf (pq_v T)))), (ax, .inl (cI, 8, .inl (zf (pq_x T))))] sz) [(am, .inr (3, [.int (zi (pq_n T)), .ref aw, .ref av, .ref ax, .int (zi kk), .int (zi ka), .int (zi kb)])), (aw, .inl (cI, 8, .inl (zf (pq_w T)))), (av, .inl (cI, 8, .inl (zf (pq_v T)))), (ax, .inl (cI, 8, .inl (zf (pq_x T))))]) (va_A [(am, .inr (3, [.int (zi (pq_n T)), .ref aw, .ref av, .ref ax, .int (zi kk), .int (zi ka), .int (zi kb)])), (aw, .inl (cI, 8, .inl (zf (pq_w T)))), (av, .inl (cI, 8, .inl (zf (pq_v T)))), (ax, .inl (cI, 8, .inl (zf (pq_x T))))] sz)) 0 0 (va_A [(am, .inr (3, [.int (zi (pq_n T)), .ref aw, .ref av, .ref ax, .int (zi kk), .int (zi ka), .int (zi kb)])), (aw, .inl (cI, 8, .inl (zf (pq_w T)))), (av, .inl (cI, 8, .inl (zf (pq_v T)))), (ax, .inl (cI, 8, .inl (zf (pq_x T))))] sz) := by
  refine Met.ofW (cc := cX3_writeOf) (maxL := 2) (ret := (some .int)) (by decide) rfl ?_
  intro p e s m args below meth c s₁ B hml hv
  obtain ⟨rfl, hsz, hP, hK, hD0⟩ := hv
  have hx := B.exec
  have hb := B.bytes
  have hr := B.returns
  have hts := atoms_spec (ws := zs_c_X3_writeOf) B.pre
  have hown : s.vm.findClass RX3 = some m.cls := findClass_of_methodNamed B.named
  have hlocks := B.notSynchronized
  have hiX3 : ∀ w ∈ wsX30, w ∈ zs_c_X3_writeOf := by decide +kernel
  subst hsz
  have hD := hD0.self (sz := s.heap.size)
  generalize hAe : va_A [(am, .inr (3, [.int (zi (pq_n T)), .ref aw, .ref av, .ref ax, .int (zi kk), .int (zi ka), .int (zi kb)])), (aw, .inl (cI, 8, .inl (zf (pq_w T)))), (av, .inl (cI, 8, .inl (zf (pq_v T)))), (ax, .inl (cI, 8, .inl (zf (pq_x T))))] s.heap.size = A at hD ⊢
  have hA : ∀ q : Nat, s.heap.size ≤ q → A q := fun q h => by rw [← hAe]; exact Or.inr h
  have hS : va_S A s.heap s.heap [] := va_S.rf
  have hl := lv_entry ([.ref am, .int (zi i)]) (n := 2) (Nat.le_of_ble_eq_true rfl)
  rw [lg_entry_eq]
  generalize (lg_sl ([.ref am, .int (zi i)]) ++ List.replicate (2 - (lg_sl ([.ref am, .int (zi i)])).length) Slot.unset).toArray = ls at hl ⊢
  have hl : lv_has ls 2 [(0, .ref am), (1, .int (zi i))] := hl
  refine lv_iload_n hx hb dX3_writeOf_0 rfl (lv_at hl 1 rfl) ?_
  refine pz_if_lt (tgt := 19) hx hb (by omega) dX3_writeOf_1 (by decide) (fun c_1 => ?_) (fun c_1 => ?_)
  · refine lv_iconst (v := zi (-1)) hx hb dX3_writeOf_19 (by decide) ?_
    refine W.widen (k := 0) (n := 0) (Nat.le_of_ble_eq_true rfl) (Nat.le_of_ble_eq_true rfl) ?_
    exact W.iret (v := (zi (-1))) hx hb hr (fun t ht hW => ⟨⟨(zi (-1)), (), rfl, congrArg zi (by unfold pq_wo; split <;> omega), ⟨by rw [ht]; exact hP, va_K.moved hW.alike hK, hD⟩⟩, hS.F ht⟩) hS.2.2 dX3_writeOf_20
  · refine lv_iload_n hx hb dX3_writeOf_4 rfl (lv_at hl 1 rfl) ?_
    refine lv_bipush (v := zi 8) hx hb dX3_writeOf_5 (by decide) ?_
    refine pz_icmp_ge (tgt := 19) hx hb (by omega) dX3_writeOf_7 (by decide) (fun c_2 => ?_) (fun c_2 => ?_)
    · refine lv_iconst (v := zi (-1)) hx hb dX3_writeOf_19 (by decide) ?_
      refine W.widen (k := 0) (n := 0) (Nat.le_of_ble_eq_true rfl) (Nat.le_of_ble_eq_true rfl) ?_
      exact W.iret (v := (zi (-1))) hx hb hr (fun t ht hW => ⟨⟨(zi (-1)), (), rfl, congrArg zi (by unfold pq_wo; split <;> omega), ⟨by rw [ht]; exact hP, va_K.moved hW.alike hK, hD⟩⟩, hS.F ht⟩) hS.2.2 dX3_writeOf_20
    · refine lv_aload_n hx hb dX3_writeOf_10 rfl (lv_at hl 0 rfl) ?_
      refine va_get (D := (dC, dI)) (ci := 3) (v := .ref aw) (C := RX3) (T := TX3) (N := 7) hx hb hts hiX3 hown hK hP 0 rfl rfl 1 (by decide) (hts (.fieldLink RX3 15 "Haltingale$Machine" "writes" "[I") (by decide +kernel)) (fun _ h9 => h9) rfl dX3_writeOf_11 ?_
      refine lv_iload_n hx hb dX3_writeOf_14 rfl (lv_at hl 1 rfl) ?_
      refine pz_iald hx hb hK hP 1 0 rfl rfl (i := i) (by omega) dX3_writeOf_15 ?_
      refine lv_goto (tgt := 20) hx hb dX3_writeOf_16 (by decide) ?_
      refine W.widen (k := 0) (n := 0) (Nat.le_of_ble_eq_true rfl) (Nat.le_of_ble_eq_true rfl) ?_
      exact W.iret (v := (zi (pq_w T i.toNat))) hx hb hr (fun t ht hW => ⟨⟨(zi (pq_w T i.toNat)), (), rfl, congrArg zi (by unfold pq_wo; split <;> omega), ⟨by rw [ht]; exact hP, va_K.moved hW.alike hK, hD⟩⟩, hS.F ht⟩) hS.2.2 dX3_writeOf_20

def zs_c_X3_moveOf : List Cond := .code yX3_moveOf cX3_moveOf 2 (some .int) :: (([.fieldLink RX3 19 "Haltingale$Machine" "moves" "[I"] : List Cond) ++ wsX30)
set_option maxHeartbeats 4000000 in
set_option maxRecDepth 100000 in
theorem c_X3_moveOf (l : Launch) (dC : Nat → ClassId) (dI : Nat → Nat → Nat) (cI cZ cM cT : ClassId) (sz : Nat) (am : Nat) (aw : Nat) (av : Nat) (ax : Nat) (T : pq_T) (kk : Int) (ka : Int) (kb : Int) (i : Int) (hi : -2147483648 ≤ i ∧ i ≤ 2147483647) : Met l yX3_moveOf zs_c_X3_moveOf ({ frames := 0, cells := 0, slots := 0, locals := 0 }) (va_Pc [.ref am, .int (zi i)] (fun U => U.heap.size = sz ∧ va_P (dC, dI) vwCl [(am, .inr (3, [.int (zi (pq_n T)), .ref aw, .ref av, .ref ax, .int (zi kk), .int (zi ka), .int (zi kb)])), (aw, .inl (cI, 8, .inl (zf (pq_w T)))), (av, .inl (cI, 8, .inl (zf (pq_v T)))), (ax, .inl (cI, 8, .inl (zf (pq_x T))))] U.heap ∧ va_K (dC, dI) vwCl (zT4 cI cZ cM cT) U ∧ va_D (fun _ => True) [(am, .inr (3, [.int (zi (pq_n T)), .ref aw, .ref av, .ref ax, .int (zi kk), .int (zi ka), .int (zi kb)])), (aw, .inl (cI, 8, .inl (zf (pq_w T)))), (av, .inl (cI, 8, .inl (zf (pq_v T)))), (ax, .inl (cI, 8, .inl (zf (pq_x T))))])) (va_Qi (fun (r : Int32) (_ : Unit) => r = zi (pq_vo T i)) (fun _ t => va_P (dC, dI) vwCl [(am, .inr (3, [.int (zi (pq_n T)), .ref aw, .ref av, .ref ax, .int (zi kk), .int (zi ka), .int (zi kb)])), (aw, .inl (cI, 8, .inl (zf (pq_w T)))), (av, .inl (cI, 8, .inl (zf (pq_v T)))), (ax, .inl (cI, 8, .inl (zf (pq_x T))))] t.heap ∧ va_K (dC, dI) vwCl (zT4 cI cZ cM cT) t ∧ va_D (va_A [(am, .inr (3, [.int (zi (pq_n T)), .ref aw, .ref av, .ref ax, .int (zi kk), .int (zi ka), .int (zi kb)])), (aw, .inl (cI, 8, .inl (zf (pq_w T)))), (av, .inl (cI, 8, .inl (zf (pq_v T)))), (ax, .inl (cI, 8, .inl (zf (pq_x T))))] sz) [(am, .inr (3, [.int (zi (pq_n T)), .ref aw, .ref av, .ref ax, .int (zi kk), .int (zi ka), .int (zi kb)])), (aw, .inl (cI, 8, .inl (zf (pq_w T)))), (av, .inl (cI, 8, .inl (zf (pq_v T)))), (ax, .inl (cI, 8, .inl (zf (pq_x T))))]) (va_A [(am, .inr (3, [.int (zi (pq_n T)), .ref aw, .ref av, .ref ax, .int (zi kk), .int (zi ka), .int (zi kb)])), (aw, .inl (cI, 8, .inl (zf (pq_w T)))), (av, .inl (cI, 8, .inl (zf (pq_v T)))), (ax, .inl (cI, 8, .inl (zf (pq_x T))))] sz)) 0 0 (va_A [(am, .inr (3, [.int (zi (pq_n T)), .ref aw, .ref av, .ref ax, .int (zi kk), .int (zi ka), .int (zi kb)])), (aw, .inl (cI, 8, .inl (zf (pq_w T)))), (av, .inl (cI, 8, .inl (zf (pq_v T)))), (ax, .inl (cI, 8, .inl (zf (pq_x T))))] sz) := by
  refine Met.ofW (cc := cX3_moveOf) (maxL := 2) (ret := (some .int)) (by decide) rfl ?_
  intro p e s m args below meth c s₁ B hml hv
  obtain ⟨rfl, hsz, hP, hK, hD0⟩ := hv
  have hx := B.exec
  have hb := B.bytes
  have hr := B.returns
  have hts := atoms_spec (ws := zs_c_X3_moveOf) B.pre
  have hown : s.vm.findClass RX3 = some m.cls := findClass_of_methodNamed B.named
  have hlocks := B.notSynchronized
  have hiX3 : ∀ w ∈ wsX30, w ∈ zs_c_X3_moveOf := by decide +kernel
  subst hsz
  have hD := hD0.self (sz := s.heap.size)
  generalize hAe : va_A [(am, .inr (3, [.int (zi (pq_n T)), .ref aw, .ref av, .ref ax, .int (zi kk), .int (zi ka), .int (zi kb)])), (aw, .inl (cI, 8, .inl (zf (pq_w T)))), (av, .inl (cI, 8, .inl (zf (pq_v T)))), (ax, .inl (cI, 8, .inl (zf (pq_x T))))] s.heap.size = A at hD ⊢
  have hA : ∀ q : Nat, s.heap.size ≤ q → A q := fun q h => by rw [← hAe]; exact Or.inr h
  have hS : va_S A s.heap s.heap [] := va_S.rf
  have hl := lv_entry ([.ref am, .int (zi i)]) (n := 2) (Nat.le_of_ble_eq_true rfl)
  rw [lg_entry_eq]
  generalize (lg_sl ([.ref am, .int (zi i)]) ++ List.replicate (2 - (lg_sl ([.ref am, .int (zi i)])).length) Slot.unset).toArray = ls at hl ⊢
  have hl : lv_has ls 2 [(0, .ref am), (1, .int (zi i))] := hl
  refine lv_iload_n hx hb dX3_moveOf_0 rfl (lv_at hl 1 rfl) ?_
  refine pz_if_lt (tgt := 19) hx hb (by omega) dX3_moveOf_1 (by decide) (fun c_1 => ?_) (fun c_1 => ?_)
  · refine lv_iconst (v := zi 0) hx hb dX3_moveOf_19 (by decide) ?_
    refine W.widen (k := 0) (n := 0) (Nat.le_of_ble_eq_true rfl) (Nat.le_of_ble_eq_true rfl) ?_
    exact W.iret (v := (zi 0)) hx hb hr (fun t ht hW => ⟨⟨(zi 0), (), rfl, congrArg zi (by unfold pq_vo; split <;> omega), ⟨by rw [ht]; exact hP, va_K.moved hW.alike hK, hD⟩⟩, hS.F ht⟩) hS.2.2 dX3_moveOf_20
  · refine lv_iload_n hx hb dX3_moveOf_4 rfl (lv_at hl 1 rfl) ?_
    refine lv_bipush (v := zi 8) hx hb dX3_moveOf_5 (by decide) ?_
    refine pz_icmp_ge (tgt := 19) hx hb (by omega) dX3_moveOf_7 (by decide) (fun c_2 => ?_) (fun c_2 => ?_)
    · refine lv_iconst (v := zi 0) hx hb dX3_moveOf_19 (by decide) ?_
      refine W.widen (k := 0) (n := 0) (Nat.le_of_ble_eq_true rfl) (Nat.le_of_ble_eq_true rfl) ?_
      exact W.iret (v := (zi 0)) hx hb hr (fun t ht hW => ⟨⟨(zi 0), (), rfl, congrArg zi (by unfold pq_vo; split <;> omega), ⟨by rw [ht]; exact hP, va_K.moved hW.alike hK, hD⟩⟩, hS.F ht⟩) hS.2.2 dX3_moveOf_20
    · refine lv_aload_n hx hb dX3_moveOf_10 rfl (lv_at hl 0 rfl) ?_
      refine va_get (D := (dC, dI)) (ci := 3) (v := .ref av) (C := RX3) (T := TX3) (N := 7) hx hb hts hiX3 hown hK hP 0 rfl rfl 2 (by decide) (hts (.fieldLink RX3 19 "Haltingale$Machine" "moves" "[I") (by decide +kernel)) (fun _ h9 => h9) rfl dX3_moveOf_11 ?_
      refine lv_iload_n hx hb dX3_moveOf_14 rfl (lv_at hl 1 rfl) ?_
      refine pz_iald hx hb hK hP 2 0 rfl rfl (i := i) (by omega) dX3_moveOf_15 ?_
      refine lv_goto (tgt := 20) hx hb dX3_moveOf_16 (by decide) ?_
      refine W.widen (k := 0) (n := 0) (Nat.le_of_ble_eq_true rfl) (Nat.le_of_ble_eq_true rfl) ?_
      exact W.iret (v := (zi (pq_v T i.toNat))) hx hb hr (fun t ht hW => ⟨⟨(zi (pq_v T i.toNat)), (), rfl, congrArg zi (by unfold pq_vo; split <;> omega), ⟨by rw [ht]; exact hP, va_K.moved hW.alike hK, hD⟩⟩, hS.F ht⟩) hS.2.2 dX3_moveOf_20

def zs_c_X3_nextOf : List Cond := .code yX3_nextOf cX3_nextOf 2 (some .int) :: (([.fieldLink RX3 22 "Haltingale$Machine" "nexts" "[I"] : List Cond) ++ wsX30)
set_option maxHeartbeats 4000000 in
set_option maxRecDepth 100000 in
theorem c_X3_nextOf (l : Launch) (dC : Nat → ClassId) (dI : Nat → Nat → Nat) (cI cZ cM cT : ClassId) (sz : Nat) (am : Nat) (aw : Nat) (av : Nat) (ax : Nat) (T : pq_T) (kk : Int) (ka : Int) (kb : Int) (i : Int) (hi : -2147483648 ≤ i ∧ i ≤ 2147483647) : Met l yX3_nextOf zs_c_X3_nextOf ({ frames := 0, cells := 0, slots := 0, locals := 0 }) (va_Pc [.ref am, .int (zi i)] (fun U => U.heap.size = sz ∧ va_P (dC, dI) vwCl [(am, .inr (3, [.int (zi (pq_n T)), .ref aw, .ref av, .ref ax, .int (zi kk), .int (zi ka), .int (zi kb)])), (aw, .inl (cI, 8, .inl (zf (pq_w T)))), (av, .inl (cI, 8, .inl (zf (pq_v T)))), (ax, .inl (cI, 8, .inl (zf (pq_x T))))] U.heap ∧ va_K (dC, dI) vwCl (zT4 cI cZ cM cT) U ∧ va_D (fun _ => True) [(am, .inr (3, [.int (zi (pq_n T)), .ref aw, .ref av, .ref ax, .int (zi kk), .int (zi ka), .int (zi kb)])), (aw, .inl (cI, 8, .inl (zf (pq_w T)))), (av, .inl (cI, 8, .inl (zf (pq_v T)))), (ax, .inl (cI, 8, .inl (zf (pq_x T))))])) (va_Qi (fun (r : Int32) (_ : Unit) => r = zi (pq_xo T i)) (fun _ t => va_P (dC, dI) vwCl [(am, .inr (3, [.int (zi (pq_n T)), .ref aw, .ref av, .ref ax, .int (zi kk), .int (zi ka), .int (zi kb)])), (aw, .inl (cI, 8, .inl (zf (pq_w T)))), (av, .inl (cI, 8, .inl (zf (pq_v T)))), (ax, .inl (cI, 8, .inl (zf (pq_x T))))] t.heap ∧ va_K (dC, dI) vwCl (zT4 cI cZ cM cT) t ∧ va_D (va_A [(am, .inr (3, [.int (zi (pq_n T)), .ref aw, .ref av, .ref ax, .int (zi kk), .int (zi ka), .int (zi kb)])), (aw, .inl (cI, 8, .inl (zf (pq_w T)))), (av, .inl (cI, 8, .inl (zf (pq_v T)))), (ax, .inl (cI, 8, .inl (zf (pq_x T))))] sz) [(am, .inr (3, [.int (zi (pq_n T)), .ref aw, .ref av, .ref ax, .int (zi kk), .int (zi ka), .int (zi kb)])), (aw, .inl (cI, 8, .inl (zf (pq_w T)))), (av, .inl (cI, 8, .inl (zf (pq_v T)))), (ax, .inl (cI, 8, .inl (zf (pq_x T))))]) (va_A [(am, .inr (3, [.int (zi (pq_n T)), .ref aw, .ref av, .ref ax, .int (zi kk), .int (zi ka), .int (zi kb)])), (aw, .inl (cI, 8, .inl (zf (pq_w T)))), (av, .inl (cI, 8, .inl (zf (pq_v T)))), (ax, .inl (cI, 8, .inl (zf (pq_x T))))] sz)) 0 0 (va_A [(am, .inr (3, [.int (zi (pq_n T)), .ref aw, .ref av, .ref ax, .int (zi kk), .int (zi ka), .int (zi kb)])), (aw, .inl (cI, 8, .inl (zf (pq_w T)))), (av, .inl (cI, 8, .inl (zf (pq_v T)))), (ax, .inl (cI, 8, .inl (zf (pq_x T))))] sz) := by
  refine Met.ofW (cc := cX3_nextOf) (maxL := 2) (ret := (some .int)) (by decide) rfl ?_
  intro p e s m args below meth c s₁ B hml hv
  obtain ⟨rfl, hsz, hP, hK, hD0⟩ := hv
  have hx := B.exec
  have hb := B.bytes
  have hr := B.returns
  have hts := atoms_spec (ws := zs_c_X3_nextOf) B.pre
  have hown : s.vm.findClass RX3 = some m.cls := findClass_of_methodNamed B.named
  have hlocks := B.notSynchronized
  have hiX3 : ∀ w ∈ wsX30, w ∈ zs_c_X3_nextOf := by decide +kernel
  subst hsz
  have hD := hD0.self (sz := s.heap.size)
  generalize hAe : va_A [(am, .inr (3, [.int (zi (pq_n T)), .ref aw, .ref av, .ref ax, .int (zi kk), .int (zi ka), .int (zi kb)])), (aw, .inl (cI, 8, .inl (zf (pq_w T)))), (av, .inl (cI, 8, .inl (zf (pq_v T)))), (ax, .inl (cI, 8, .inl (zf (pq_x T))))] s.heap.size = A at hD ⊢
  have hA : ∀ q : Nat, s.heap.size ≤ q → A q := fun q h => by rw [← hAe]; exact Or.inr h
  have hS : va_S A s.heap s.heap [] := va_S.rf
  have hl := lv_entry ([.ref am, .int (zi i)]) (n := 2) (Nat.le_of_ble_eq_true rfl)
  rw [lg_entry_eq]
  generalize (lg_sl ([.ref am, .int (zi i)]) ++ List.replicate (2 - (lg_sl ([.ref am, .int (zi i)])).length) Slot.unset).toArray = ls at hl ⊢
  have hl : lv_has ls 2 [(0, .ref am), (1, .int (zi i))] := hl
  refine lv_iload_n hx hb dX3_nextOf_0 rfl (lv_at hl 1 rfl) ?_
  refine pz_if_lt (tgt := 19) hx hb (by omega) dX3_nextOf_1 (by decide) (fun c_1 => ?_) (fun c_1 => ?_)
  · refine lv_iconst (v := zi 0) hx hb dX3_nextOf_19 (by decide) ?_
    refine W.widen (k := 0) (n := 0) (Nat.le_of_ble_eq_true rfl) (Nat.le_of_ble_eq_true rfl) ?_
    exact W.iret (v := (zi 0)) hx hb hr (fun t ht hW => ⟨⟨(zi 0), (), rfl, congrArg zi (by unfold pq_xo; split <;> omega), ⟨by rw [ht]; exact hP, va_K.moved hW.alike hK, hD⟩⟩, hS.F ht⟩) hS.2.2 dX3_nextOf_20
  · refine lv_iload_n hx hb dX3_nextOf_4 rfl (lv_at hl 1 rfl) ?_
    refine lv_bipush (v := zi 8) hx hb dX3_nextOf_5 (by decide) ?_
    refine pz_icmp_ge (tgt := 19) hx hb (by omega) dX3_nextOf_7 (by decide) (fun c_2 => ?_) (fun c_2 => ?_)
    · refine lv_iconst (v := zi 0) hx hb dX3_nextOf_19 (by decide) ?_
      refine W.widen (k := 0) (n := 0) (Nat.le_of_ble_eq_true rfl) (Nat.le_of_ble_eq_true rfl) ?_
      exact W.iret (v := (zi 0)) hx hb hr (fun t ht hW => ⟨⟨(zi 0), (), rfl, congrArg zi (by unfold pq_xo; split <;> omega), ⟨by rw [ht]; exact hP, va_K.moved hW.alike hK, hD⟩⟩, hS.F ht⟩) hS.2.2 dX3_nextOf_20
    · refine lv_aload_n hx hb dX3_nextOf_10 rfl (lv_at hl 0 rfl) ?_
      refine va_get (D := (dC, dI)) (ci := 3) (v := .ref ax) (C := RX3) (T := TX3) (N := 7) hx hb hts hiX3 hown hK hP 0 rfl rfl 3 (by decide) (hts (.fieldLink RX3 22 "Haltingale$Machine" "nexts" "[I") (by decide +kernel)) (fun _ h9 => h9) rfl dX3_nextOf_11 ?_
      refine lv_iload_n hx hb dX3_nextOf_14 rfl (lv_at hl 1 rfl) ?_
      refine pz_iald hx hb hK hP 3 0 rfl rfl (i := i) (by omega) dX3_nextOf_15 ?_
      refine lv_goto (tgt := 20) hx hb dX3_nextOf_16 (by decide) ?_
      refine W.widen (k := 0) (n := 0) (Nat.le_of_ble_eq_true rfl) (Nat.le_of_ble_eq_true rfl) ?_
      exact W.iret (v := (zi (pq_x T i.toNat))) hx hb hr (fun t ht hW => ⟨⟨(zi (pq_x T i.toNat)), (), rfl, congrArg zi (by unfold pq_xo; split <;> omega), ⟨by rw [ht]; exact hP, va_K.moved hW.alike hK, hD⟩⟩, hS.F ht⟩) hS.2.2 dX3_nextOf_20

def zs_c_X3_isEmpty : List Cond := .code yX3_isEmpty cX3_isEmpty 2 (some .boolean) :: (([.fieldLink RX3 15 "Haltingale$Machine" "writes" "[I"] : List Cond) ++ wsX30)
set_option maxHeartbeats 4000000 in
set_option maxRecDepth 100000 in
theorem c_X3_isEmpty (l : Launch) (dC : Nat → ClassId) (dI : Nat → Nat → Nat) (cI cZ cM cT : ClassId) (sz : Nat) (am : Nat) (aw : Nat) (av : Nat) (ax : Nat) (T : pq_T) (kk : Int) (ka : Int) (kb : Int) (i : Int) (hok : pq_ok T) (hi : -2147483648 ≤ i ∧ i ≤ 2147483647) : Met l yX3_isEmpty zs_c_X3_isEmpty ({ frames := 0, cells := 0, slots := 0, locals := 0 }) (va_Pc [.ref am, .int (zi i)] (fun U => U.heap.size = sz ∧ va_P (dC, dI) vwCl [(am, .inr (3, [.int (zi (pq_n T)), .ref aw, .ref av, .ref ax, .int (zi kk), .int (zi ka), .int (zi kb)])), (aw, .inl (cI, 8, .inl (zf (pq_w T)))), (av, .inl (cI, 8, .inl (zf (pq_v T)))), (ax, .inl (cI, 8, .inl (zf (pq_x T))))] U.heap ∧ va_K (dC, dI) vwCl (zT4 cI cZ cM cT) U ∧ va_D (fun _ => True) [(am, .inr (3, [.int (zi (pq_n T)), .ref aw, .ref av, .ref ax, .int (zi kk), .int (zi ka), .int (zi kb)])), (aw, .inl (cI, 8, .inl (zf (pq_w T)))), (av, .inl (cI, 8, .inl (zf (pq_v T)))), (ax, .inl (cI, 8, .inl (zf (pq_x T))))])) (va_Qi (fun (r : Int32) (_ : Unit) => r = zi (pb (pq_E T i))) (fun _ t => va_P (dC, dI) vwCl [(am, .inr (3, [.int (zi (pq_n T)), .ref aw, .ref av, .ref ax, .int (zi kk), .int (zi ka), .int (zi kb)])), (aw, .inl (cI, 8, .inl (zf (pq_w T)))), (av, .inl (cI, 8, .inl (zf (pq_v T)))), (ax, .inl (cI, 8, .inl (zf (pq_x T))))] t.heap ∧ va_K (dC, dI) vwCl (zT4 cI cZ cM cT) t ∧ va_D (va_A [(am, .inr (3, [.int (zi (pq_n T)), .ref aw, .ref av, .ref ax, .int (zi kk), .int (zi ka), .int (zi kb)])), (aw, .inl (cI, 8, .inl (zf (pq_w T)))), (av, .inl (cI, 8, .inl (zf (pq_v T)))), (ax, .inl (cI, 8, .inl (zf (pq_x T))))] sz) [(am, .inr (3, [.int (zi (pq_n T)), .ref aw, .ref av, .ref ax, .int (zi kk), .int (zi ka), .int (zi kb)])), (aw, .inl (cI, 8, .inl (zf (pq_w T)))), (av, .inl (cI, 8, .inl (zf (pq_v T)))), (ax, .inl (cI, 8, .inl (zf (pq_x T))))]) (va_A [(am, .inr (3, [.int (zi (pq_n T)), .ref aw, .ref av, .ref ax, .int (zi kk), .int (zi ka), .int (zi kb)])), (aw, .inl (cI, 8, .inl (zf (pq_w T)))), (av, .inl (cI, 8, .inl (zf (pq_v T)))), (ax, .inl (cI, 8, .inl (zf (pq_x T))))] sz)) 0 0 (va_A [(am, .inr (3, [.int (zi (pq_n T)), .ref aw, .ref av, .ref ax, .int (zi kk), .int (zi ka), .int (zi kb)])), (aw, .inl (cI, 8, .inl (zf (pq_w T)))), (av, .inl (cI, 8, .inl (zf (pq_v T)))), (ax, .inl (cI, 8, .inl (zf (pq_x T))))] sz) := by
  refine Met.ofW (cc := cX3_isEmpty) (maxL := 2) (ret := (some .boolean)) (by decide) rfl ?_
  intro p e s m args below meth c s₁ B hml hv
  obtain ⟨rfl, hsz, hP, hK, hD0⟩ := hv
  have hx := B.exec
  have hb := B.bytes
  have hr := B.returns
  have hts := atoms_spec (ws := zs_c_X3_isEmpty) B.pre
  have hown : s.vm.findClass RX3 = some m.cls := findClass_of_methodNamed B.named
  have hlocks := B.notSynchronized
  have hiX3 : ∀ w ∈ wsX30, w ∈ zs_c_X3_isEmpty := by decide +kernel
  subst hsz
  have hD := hD0.self (sz := s.heap.size)
  generalize hAe : va_A [(am, .inr (3, [.int (zi (pq_n T)), .ref aw, .ref av, .ref ax, .int (zi kk), .int (zi ka), .int (zi kb)])), (aw, .inl (cI, 8, .inl (zf (pq_w T)))), (av, .inl (cI, 8, .inl (zf (pq_v T)))), (ax, .inl (cI, 8, .inl (zf (pq_x T))))] s.heap.size = A at hD ⊢
  have hA : ∀ q : Nat, s.heap.size ≤ q → A q := fun q h => by rw [← hAe]; exact Or.inr h
  have hS : va_S A s.heap s.heap [] := va_S.rf
  have hl := lv_entry ([.ref am, .int (zi i)]) (n := 2) (Nat.le_of_ble_eq_true rfl)
  rw [lg_entry_eq]
  generalize (lg_sl ([.ref am, .int (zi i)]) ++ List.replicate (2 - (lg_sl ([.ref am, .int (zi i)])).length) Slot.unset).toArray = ls at hl ⊢
  have hl : lv_has ls 2 [(0, .ref am), (1, .int (zi i))] := hl
  refine lv_iload_n hx hb dX3_isEmpty_0 rfl (lv_at hl 1 rfl) ?_
  refine pz_if_lt (tgt := 20) hx hb (by omega) dX3_isEmpty_1 (by decide) (fun c_1 => ?_) (fun c_1 => ?_)
  · refine lv_iconst (v := zi 1) hx hb dX3_isEmpty_20 (by decide) ?_
    refine lv_goto (tgt := 25) hx hb dX3_isEmpty_21 (by decide) ?_
    refine W.widen (k := 0) (n := 0) (Nat.le_of_ble_eq_true rfl) (Nat.le_of_ble_eq_true rfl) ?_
    exact W.zret (v := (zi 1)) hx hb hr (pz_nar (by first | omega | exact pb_or _)) (fun t ht hW => ⟨⟨(zi 1), (), rfl, congrArg zi ((pb_t (show i < 0 ∨ 8 ≤ i ∨ pq_w T i.toNat = -1 by omega)).symm), ⟨by rw [ht]; exact hP, va_K.moved hW.alike hK, hD⟩⟩, hS.F ht⟩) hS.2.2 dX3_isEmpty_25
  · refine lv_iload_n hx hb dX3_isEmpty_4 rfl (lv_at hl 1 rfl) ?_
    refine lv_bipush (v := zi 8) hx hb dX3_isEmpty_5 (by decide) ?_
    refine pz_icmp_ge (tgt := 20) hx hb (by omega) dX3_isEmpty_7 (by decide) (fun c_2 => ?_) (fun c_2 => ?_)
    · refine lv_iconst (v := zi 1) hx hb dX3_isEmpty_20 (by decide) ?_
      refine lv_goto (tgt := 25) hx hb dX3_isEmpty_21 (by decide) ?_
      refine W.widen (k := 0) (n := 0) (Nat.le_of_ble_eq_true rfl) (Nat.le_of_ble_eq_true rfl) ?_
      exact W.zret (v := (zi 1)) hx hb hr (pz_nar (by first | omega | exact pb_or _)) (fun t ht hW => ⟨⟨(zi 1), (), rfl, congrArg zi ((pb_t (show i < 0 ∨ 8 ≤ i ∨ pq_w T i.toNat = -1 by omega)).symm), ⟨by rw [ht]; exact hP, va_K.moved hW.alike hK, hD⟩⟩, hS.F ht⟩) hS.2.2 dX3_isEmpty_25
    · refine lv_aload_n hx hb dX3_isEmpty_10 rfl (lv_at hl 0 rfl) ?_
      refine va_get (D := (dC, dI)) (ci := 3) (v := .ref aw) (C := RX3) (T := TX3) (N := 7) hx hb hts hiX3 hown hK hP 0 rfl rfl 1 (by decide) (hts (.fieldLink RX3 15 "Haltingale$Machine" "writes" "[I") (by decide +kernel)) (fun _ h9 => h9) rfl dX3_isEmpty_11 ?_
      refine lv_iload_n hx hb dX3_isEmpty_14 rfl (lv_at hl 1 rfl) ?_
      refine pz_iald hx hb hK hP 1 0 rfl rfl (i := i) (by omega) dX3_isEmpty_15 ?_
      refine lv_iconst (v := zi (-1)) hx hb dX3_isEmpty_16 (by decide) ?_
      refine pz_icmp_ne (tgt := 24) hx hb (by have := pq_w_rg hok (c := i.toNat) (by omega); omega) dX3_isEmpty_17 (by decide) (fun c_3 => ?_) (fun c_3 => ?_)
      · refine lv_iconst (v := zi 0) hx hb dX3_isEmpty_24 (by decide) ?_
        refine W.widen (k := 0) (n := 0) (Nat.le_of_ble_eq_true rfl) (Nat.le_of_ble_eq_true rfl) ?_
        exact W.zret (v := (zi 0)) hx hb hr (pz_nar (by first | omega | exact pb_or _)) (fun t ht hW => ⟨⟨(zi 0), (), rfl, congrArg zi ((pb_f (show ¬ (i < 0 ∨ 8 ≤ i ∨ pq_w T i.toNat = -1) by omega)).symm), ⟨by rw [ht]; exact hP, va_K.moved hW.alike hK, hD⟩⟩, hS.F ht⟩) hS.2.2 dX3_isEmpty_25
      · refine lv_iconst (v := zi 1) hx hb dX3_isEmpty_20 (by decide) ?_
        refine lv_goto (tgt := 25) hx hb dX3_isEmpty_21 (by decide) ?_
        refine W.widen (k := 0) (n := 0) (Nat.le_of_ble_eq_true rfl) (Nat.le_of_ble_eq_true rfl) ?_
        exact W.zret (v := (zi 1)) hx hb hr (pz_nar (by first | omega | exact pb_or _)) (fun t ht hW => ⟨⟨(zi 1), (), rfl, congrArg zi ((pb_t (show i < 0 ∨ 8 ≤ i ∨ pq_w T i.toNat = -1 by omega)).symm), ⟨by rw [ht]; exact hP, va_K.moved hW.alike hK, hD⟩⟩, hS.F ht⟩) hS.2.2 dX3_isEmpty_25

def zs_c_X3_isEnd : List Cond := .code yX3_isEnd cX3_isEnd 2 (some .boolean) :: (([.code yX3_isEmpty cX3_isEmpty 2 (some .boolean), .fieldLink RX3 15 "Haltingale$Machine" "writes" "[I", .methodLink RX3 34 yX3_isEmpty, .instanceMethod yX3_isEmpty, .initialized RX3, .selects RX3 yX3_isEmpty yX3_isEmpty, .code yX3_nextOf cX3_nextOf 2 (some .int), .fieldLink RX3 22 "Haltingale$Machine" "nexts" "[I", .methodLink RX3 38 yX3_nextOf, .instanceMethod yX3_nextOf, .selects RX3 yX3_nextOf yX3_nextOf, .fieldLink RX3 9 "Haltingale$Machine" "states" "I"] : List Cond) ++ wsX30)
set_option maxHeartbeats 4000000 in
set_option maxRecDepth 100000 in
theorem c_X3_isEnd (l : Launch) (dC : Nat → ClassId) (dI : Nat → Nat → Nat) (cI cZ cM cT : ClassId) (sz : Nat) (am : Nat) (aw : Nat) (av : Nat) (ax : Nat) (T : pq_T) (kk : Int) (ka : Int) (kb : Int) (i : Int) (hok : pq_ok T) (hi : -2147483648 ≤ i ∧ i ≤ 2147483647) : Met l yX3_isEnd zs_c_X3_isEnd ({ frames := 1, cells := 0, slots := 0, locals := 21 }) (va_Pc [.ref am, .int (zi i)] (fun U => U.heap.size = sz ∧ va_P (dC, dI) vwCl [(am, .inr (3, [.int (zi (pq_n T)), .ref aw, .ref av, .ref ax, .int (zi kk), .int (zi ka), .int (zi kb)])), (aw, .inl (cI, 8, .inl (zf (pq_w T)))), (av, .inl (cI, 8, .inl (zf (pq_v T)))), (ax, .inl (cI, 8, .inl (zf (pq_x T))))] U.heap ∧ va_K (dC, dI) vwCl (zT4 cI cZ cM cT) U ∧ va_D (fun _ => True) [(am, .inr (3, [.int (zi (pq_n T)), .ref aw, .ref av, .ref ax, .int (zi kk), .int (zi ka), .int (zi kb)])), (aw, .inl (cI, 8, .inl (zf (pq_w T)))), (av, .inl (cI, 8, .inl (zf (pq_v T)))), (ax, .inl (cI, 8, .inl (zf (pq_x T))))])) (va_Qi (fun (r : Int32) (_ : Unit) => r = zi (pb (pq_F T i))) (fun _ t => va_P (dC, dI) vwCl [(am, .inr (3, [.int (zi (pq_n T)), .ref aw, .ref av, .ref ax, .int (zi kk), .int (zi ka), .int (zi kb)])), (aw, .inl (cI, 8, .inl (zf (pq_w T)))), (av, .inl (cI, 8, .inl (zf (pq_v T)))), (ax, .inl (cI, 8, .inl (zf (pq_x T))))] t.heap ∧ va_K (dC, dI) vwCl (zT4 cI cZ cM cT) t ∧ va_D (va_A [(am, .inr (3, [.int (zi (pq_n T)), .ref aw, .ref av, .ref ax, .int (zi kk), .int (zi ka), .int (zi kb)])), (aw, .inl (cI, 8, .inl (zf (pq_w T)))), (av, .inl (cI, 8, .inl (zf (pq_v T)))), (ax, .inl (cI, 8, .inl (zf (pq_x T))))] sz) [(am, .inr (3, [.int (zi (pq_n T)), .ref aw, .ref av, .ref ax, .int (zi kk), .int (zi ka), .int (zi kb)])), (aw, .inl (cI, 8, .inl (zf (pq_w T)))), (av, .inl (cI, 8, .inl (zf (pq_v T)))), (ax, .inl (cI, 8, .inl (zf (pq_x T))))]) (va_A [(am, .inr (3, [.int (zi (pq_n T)), .ref aw, .ref av, .ref ax, .int (zi kk), .int (zi ka), .int (zi kb)])), (aw, .inl (cI, 8, .inl (zf (pq_w T)))), (av, .inl (cI, 8, .inl (zf (pq_v T)))), (ax, .inl (cI, 8, .inl (zf (pq_x T))))] sz)) 0 0 (va_A [(am, .inr (3, [.int (zi (pq_n T)), .ref aw, .ref av, .ref ax, .int (zi kk), .int (zi ka), .int (zi kb)])), (aw, .inl (cI, 8, .inl (zf (pq_w T)))), (av, .inl (cI, 8, .inl (zf (pq_v T)))), (ax, .inl (cI, 8, .inl (zf (pq_x T))))] sz) := by
  refine Met.ofW (cc := cX3_isEnd) (maxL := 2) (ret := (some .boolean)) (by decide) rfl ?_
  intro p e s m args below meth c s₁ B hml hv
  obtain ⟨rfl, hsz, hP, hK, hD0⟩ := hv
  have hx := B.exec
  have hb := B.bytes
  have hr := B.returns
  have hts := atoms_spec (ws := zs_c_X3_isEnd) B.pre
  have hown : s.vm.findClass RX3 = some m.cls := findClass_of_methodNamed B.named
  have hlocks := B.notSynchronized
  have hiX3 : ∀ w ∈ wsX30, w ∈ zs_c_X3_isEnd := by decide +kernel
  subst hsz
  have hD := hD0.self (sz := s.heap.size)
  generalize hAe : va_A [(am, .inr (3, [.int (zi (pq_n T)), .ref aw, .ref av, .ref ax, .int (zi kk), .int (zi ka), .int (zi kb)])), (aw, .inl (cI, 8, .inl (zf (pq_w T)))), (av, .inl (cI, 8, .inl (zf (pq_v T)))), (ax, .inl (cI, 8, .inl (zf (pq_x T))))] s.heap.size = A at hD ⊢
  have hA : ∀ q : Nat, s.heap.size ≤ q → A q := fun q h => by rw [← hAe]; exact Or.inr h
  have hS : va_S A s.heap s.heap [] := va_S.rf
  have hl := lv_entry ([.ref am, .int (zi i)]) (n := 2) (Nat.le_of_ble_eq_true rfl)
  rw [lg_entry_eq]
  generalize (lg_sl ([.ref am, .int (zi i)]) ++ List.replicate (2 - (lg_sl ([.ref am, .int (zi i)])).length) Slot.unset).toArray = ls at hl ⊢
  have hl : lv_has ls 2 [(0, .ref am), (1, .int (zi i))] := hl
  refine lv_aload_n hx hb dX3_isEnd_0 rfl (lv_at hl 0 rfl) ?_
  refine lv_iload_n hx hb dX3_isEnd_1 rfl (lv_at hl 1 rfl) ?_
  have hPc := hP.sub (ws' := [(am, .inr (3, [.int (zi (pq_n T)), .ref aw, .ref av, .ref ax, .int (zi kk), .int (zi ka), .int (zi kb)])), (aw, .inl (cI, 8, .inl (zf (pq_w T)))), (av, .inl (cI, 8, .inl (zf (pq_v T)))), (ax, .inl (cI, 8, .inl (zf (pq_x T))))]) [0, 1, 2, 3] rfl
  have hDc := hD.sub (ws' := [(am, .inr (3, [.int (zi (pq_n T)), .ref aw, .ref av, .ref ax, .int (zi kk), .int (zi ka), .int (zi kb)])), (aw, .inl (cI, 8, .inl (zf (pq_w T)))), (av, .inl (cI, 8, .inl (zf (pq_v T)))), (ax, .inl (cI, 8, .inl (zf (pq_x T))))]) [0, 1, 2, 3] (by decide) rfl
  have hFc := va_free (wc := [(am, .inr (3, [.int (zi (pq_n T)), .ref aw, .ref av, .ref ax, .int (zi kk), .int (zi ka), .int (zi kb)])), (aw, .inl (cI, 8, .inl (zf (pq_w T)))), (av, .inl (cI, 8, .inl (zf (pq_v T)))), (ax, .inl (cI, 8, .inl (zf (pq_x T))))]) hD hS hA [0, 1, 2, 3] rfl
  refine va_calli (va_runV (As := [.int (zi i)]) (rest := []) ⟨hx, hb, hml, hown, hts⟩ (c_X3_isEmpty l dC dI cI cZ cM cT s.heap.size am aw av ax T kk ka kb i (by first | assumption | omega | rfl) (by first | assumption | omega | rfl)) (cwV 1 hts (goodIn_of _ (by decide +kernel)) rfl rfl rfl (by decide +kernel) ⟨Nat.le_of_ble_eq_true rfl, Nat.le_of_ble_eq_true rfl⟩) ⟨fun a U g mk q => by obtain ⟨q0, q1, qP, qK, qD⟩ := q; exact ⟨q0, q1, qP, va_K.moved (u := U) (U := U.calling g mk a) (Vm.Alike.refl U.vm) qK, qD⟩, va_recv hK hPc (ci := 3) (q0 := 0) rfl rfl, fun U hU hW => ⟨rfl, by rw [hU], by rw [hU]; exact hPc, va_K.moved hW.alike hK, hDc.weaken (fun _ _ _ _ => trivial)⟩⟩ rfl rfl hl.1 rfl (lv_room (Nat.le_of_ble_eq_true rfl)) dX3_isEnd_2 ⟨Nat.le_of_ble_eq_true rfl, Nat.le_of_ble_eq_true rfl⟩) hS (fun q _ h => hFc q h) hFc (fun r_1 u t H1 locs ht hvm hw hB hz1 hk1 hS => ?_)
  obtain ⟨hP1, hK1, hD1⟩ := hB
  rw [ht] at hP1
  obtain ⟨hP, hD⟩ := va_join (wr := []) (w1 := [(am, .inr (3, [.int (zi (pq_n T)), .ref aw, .ref av, .ref ax, .int (zi kk), .int (zi ka), .int (zi kb)])), (aw, .inl (cI, 8, .inl (zf (pq_w T)))), (av, .inl (cI, 8, .inl (zf (pq_v T)))), (ax, .inl (cI, 8, .inl (zf (pq_x T))))]) hP hD [0, 1, 2, 3] [] rfl rfl (by decide) (by decide) hk1 hFc hP1 hD1
  generalize H1 = H at hP hS ⊢
  have hP : va_P (dC, dI) vwCl [(am, .inr (3, [.int (zi (pq_n T)), .ref aw, .ref av, .ref ax, .int (zi kk), .int (zi ka), .int (zi kb)])), (aw, .inl (cI, 8, .inl (zf (pq_w T)))), (av, .inl (cI, 8, .inl (zf (pq_v T)))), (ax, .inl (cI, 8, .inl (zf (pq_x T))))] H := hP
  have hD : va_D A [(am, .inr (3, [.int (zi (pq_n T)), .ref aw, .ref av, .ref ax, .int (zi kk), .int (zi ka), .int (zi kb)])), (aw, .inl (cI, 8, .inl (zf (pq_w T)))), (av, .inl (cI, 8, .inl (zf (pq_v T)))), (ax, .inl (cI, 8, .inl (zf (pq_x T))))] := hD
  refine W.widen (k := 0) (n := 0) (Nat.le_of_ble_eq_true rfl) (Nat.le_of_ble_eq_true rfl) ?_
  obtain rfl : r_1 = zi (pb (pq_E T i)) := hw
  refine pz_ifb_ne (tgt := 20) hx hb dX3_isEnd_5 (by decide) (fun c_2 => ?_) (fun c_2 => ?_)
  · refine lv_iconst (v := zi 1) hx hb dX3_isEnd_20 (by decide) ?_
    refine lv_goto (tgt := 25) hx hb dX3_isEnd_21 (by decide) ?_
    refine W.widen (k := 0) (n := 0) (Nat.le_of_ble_eq_true rfl) (Nat.le_of_ble_eq_true rfl) ?_
    exact W.zret (v := (zi 1)) hx hb hr (pz_nar (by first | omega | exact pb_or _)) (fun t ht hW => ⟨⟨(zi 1), (), rfl, congrArg zi ((pb_t (Or.inl c_2)).symm), ⟨by rw [ht]; exact hP, va_K.moved hW.alike hK, hD⟩⟩, hS.F ht⟩) hS.2.2 dX3_isEnd_25
  · refine lv_aload_n hx hb dX3_isEnd_8 rfl (lv_at hl 0 rfl) ?_
    refine lv_iload_n hx hb dX3_isEnd_9 rfl (lv_at hl 1 rfl) ?_
    have hPc := hP.sub (ws' := [(am, .inr (3, [.int (zi (pq_n T)), .ref aw, .ref av, .ref ax, .int (zi kk), .int (zi ka), .int (zi kb)])), (aw, .inl (cI, 8, .inl (zf (pq_w T)))), (av, .inl (cI, 8, .inl (zf (pq_v T)))), (ax, .inl (cI, 8, .inl (zf (pq_x T))))]) [0, 1, 2, 3] rfl
    have hDc := hD.sub (ws' := [(am, .inr (3, [.int (zi (pq_n T)), .ref aw, .ref av, .ref ax, .int (zi kk), .int (zi ka), .int (zi kb)])), (aw, .inl (cI, 8, .inl (zf (pq_w T)))), (av, .inl (cI, 8, .inl (zf (pq_v T)))), (ax, .inl (cI, 8, .inl (zf (pq_x T))))]) [0, 1, 2, 3] (by decide) rfl
    have hFc := va_free (wc := [(am, .inr (3, [.int (zi (pq_n T)), .ref aw, .ref av, .ref ax, .int (zi kk), .int (zi ka), .int (zi kb)])), (aw, .inl (cI, 8, .inl (zf (pq_w T)))), (av, .inl (cI, 8, .inl (zf (pq_v T)))), (ax, .inl (cI, 8, .inl (zf (pq_x T))))]) hD hS hA [0, 1, 2, 3] rfl
    refine va_calli (va_runV (As := [.int (zi i)]) (rest := []) ⟨hx, hb, hml, hown, hts⟩ (c_X3_nextOf l dC dI cI cZ cM cT H.size am aw av ax T kk ka kb i (by first | assumption | omega | rfl)) (cwV 1 hts (goodIn_of _ (by decide +kernel)) rfl rfl rfl (by decide +kernel) ⟨Nat.le_of_ble_eq_true rfl, Nat.le_of_ble_eq_true rfl⟩) ⟨fun a U g mk q => by obtain ⟨q0, q1, qP, qK, qD⟩ := q; exact ⟨q0, q1, qP, va_K.moved (u := U) (U := U.calling g mk a) (Vm.Alike.refl U.vm) qK, qD⟩, va_recv hK hPc (ci := 3) (q0 := 0) rfl rfl, fun U hU hW => ⟨rfl, by rw [hU], by rw [hU]; exact hPc, va_K.moved hW.alike hK, hDc.weaken (fun _ _ _ _ => trivial)⟩⟩ rfl rfl hl.1 rfl (lv_room (Nat.le_of_ble_eq_true rfl)) dX3_isEnd_10 ⟨Nat.le_of_ble_eq_true rfl, Nat.le_of_ble_eq_true rfl⟩) hS (fun q _ h => hFc q h) hFc (fun r_3 u t H1 locs ht hvm hw hB hz1 hk1 hS => ?_)
    obtain ⟨hP1, hK1, hD1⟩ := hB
    rw [ht] at hP1
    obtain ⟨hP, hD⟩ := va_join (wr := []) (w1 := [(am, .inr (3, [.int (zi (pq_n T)), .ref aw, .ref av, .ref ax, .int (zi kk), .int (zi ka), .int (zi kb)])), (aw, .inl (cI, 8, .inl (zf (pq_w T)))), (av, .inl (cI, 8, .inl (zf (pq_v T)))), (ax, .inl (cI, 8, .inl (zf (pq_x T))))]) hP hD [0, 1, 2, 3] [] rfl rfl (by decide) (by decide) hk1 hFc hP1 hD1
    generalize H1 = H at hP hS ⊢
    have hP : va_P (dC, dI) vwCl [(am, .inr (3, [.int (zi (pq_n T)), .ref aw, .ref av, .ref ax, .int (zi kk), .int (zi ka), .int (zi kb)])), (aw, .inl (cI, 8, .inl (zf (pq_w T)))), (av, .inl (cI, 8, .inl (zf (pq_v T)))), (ax, .inl (cI, 8, .inl (zf (pq_x T))))] H := hP
    have hD : va_D A [(am, .inr (3, [.int (zi (pq_n T)), .ref aw, .ref av, .ref ax, .int (zi kk), .int (zi ka), .int (zi kb)])), (aw, .inl (cI, 8, .inl (zf (pq_w T)))), (av, .inl (cI, 8, .inl (zf (pq_v T)))), (ax, .inl (cI, 8, .inl (zf (pq_x T))))] := hD
    refine W.widen (k := 0) (n := 0) (Nat.le_of_ble_eq_true rfl) (Nat.le_of_ble_eq_true rfl) ?_
    obtain rfl : r_3 = zi (pq_xo T i) := hw
    refine pz_top (y := zi (pq_x T i.toNat)) (congrArg zi (pq_xo_in (pq_nE hok c_2).1.1 (pq_nE hok c_2).1.2)) ?_
    refine lv_aload_n hx hb dX3_isEnd_13 rfl (lv_at hl 0 rfl) ?_
    refine va_get (D := (dC, dI)) (ci := 3) (v := .int (zi (pq_n T))) (C := RX3) (T := TX3) (N := 7) hx hb hts hiX3 hown hK hP 0 rfl rfl 0 (by decide) (hts (.fieldLink RX3 9 "Haltingale$Machine" "states" "I") (by decide +kernel)) (fun _ h9 => h9) rfl dX3_isEnd_14 ?_
    have hn17 := pq_nE hok c_2
    have hn18 := hok.1
    refine pz_icmp_lt (tgt := 24) hx hb (by omega) dX3_isEnd_17 (by decide) (fun c_4 => ?_) (fun c_4 => ?_)
    · refine lv_iconst (v := zi 0) hx hb dX3_isEnd_24 (by decide) ?_
      refine W.widen (k := 0) (n := 0) (Nat.le_of_ble_eq_true rfl) (Nat.le_of_ble_eq_true rfl) ?_
      exact W.zret (v := (zi 0)) hx hb hr (pz_nar (by first | omega | exact pb_or _)) (fun t ht hW => ⟨⟨(zi 0), (), rfl, congrArg zi ((pb_f (fun h => h.elim c_2 (fun q => by have := c_4; omega))).symm), ⟨by rw [ht]; exact hP, va_K.moved hW.alike hK, hD⟩⟩, hS.F ht⟩) hS.2.2 dX3_isEnd_25
    · refine lv_iconst (v := zi 1) hx hb dX3_isEnd_20 (by decide) ?_
      refine lv_goto (tgt := 25) hx hb dX3_isEnd_21 (by decide) ?_
      refine W.widen (k := 0) (n := 0) (Nat.le_of_ble_eq_true rfl) (Nat.le_of_ble_eq_true rfl) ?_
      exact W.zret (v := (zi 1)) hx hb hr (pz_nar (by first | omega | exact pb_or _)) (fun t ht hW => ⟨⟨(zi 1), (), rfl, congrArg zi ((pb_t (Or.inr c_4)).symm), ⟨by rw [ht]; exact hP, va_K.moved hW.alike hK, hD⟩⟩, hS.F ht⟩) hS.2.2 dX3_isEnd_25

def zs_c_X3_fill : List Cond := .code yX3_fill cX3_fill 5 none :: (([.fieldLink RX3 15 "Haltingale$Machine" "writes" "[I", .fieldLink RX3 19 "Haltingale$Machine" "moves" "[I", .fieldLink RX3 22 "Haltingale$Machine" "nexts" "[I"] : List Cond) ++ wsX30)
set_option maxHeartbeats 4000000 in
set_option maxRecDepth 100000 in
theorem c_X3_fill (l : Launch) (dC : Nat → ClassId) (dI : Nat → Nat → Nat) (cI cZ cM cT : ClassId) (sz : Nat) (am : Nat) (aw : Nat) (av : Nat) (ax : Nat) (T : pq_T) (kk : Int) (ka : Int) (kb : Int) (i : Int) (y1 : Int) (y2 : Int) (y3 : Int) (hi : 0 ≤ i ∧ i < 8) : Met l yX3_fill zs_c_X3_fill ({ frames := 0, cells := 0, slots := 0, locals := 0 }) (va_Pc [.ref am, .int (zi i), .int (zi y1), .int (zi y2), .int (zi y3)] (fun U => U.heap.size = sz ∧ va_P (dC, dI) vwCl [(am, .inr (3, [.int (zi (pq_n T)), .ref aw, .ref av, .ref ax, .int (zi kk), .int (zi ka), .int (zi kb)])), (aw, .inl (cI, 8, .inl (zf (pq_w T)))), (av, .inl (cI, 8, .inl (zf (pq_v T)))), (ax, .inl (cI, 8, .inl (zf (pq_x T))))] U.heap ∧ va_K (dC, dI) vwCl (zT4 cI cZ cM cT) U ∧ va_D (fun _ => True) [(am, .inr (3, [.int (zi (pq_n T)), .ref aw, .ref av, .ref ax, .int (zi kk), .int (zi ka), .int (zi kb)])), (aw, .inl (cI, 8, .inl (zf (pq_w T)))), (av, .inl (cI, 8, .inl (zf (pq_v T)))), (ax, .inl (cI, 8, .inl (zf (pq_x T))))])) (va_Qv (fun _ : Unit => True) (fun _ t => va_P (dC, dI) vwCl [(am, .inr (3, [.int (zi (pq_n (pq_fl T i.toNat y1 y2 y3))), .ref aw, .ref av, .ref ax, .int (zi kk), .int (zi ka), .int (zi kb)])), (aw, .inl (cI, 8, .inl (zf (pq_w (pq_fl T i.toNat y1 y2 y3))))), (av, .inl (cI, 8, .inl (zf (pq_v (pq_fl T i.toNat y1 y2 y3))))), (ax, .inl (cI, 8, .inl (zf (pq_x (pq_fl T i.toNat y1 y2 y3)))))] t.heap ∧ va_K (dC, dI) vwCl (zT4 cI cZ cM cT) t ∧ va_D (va_A [(am, .inr (3, [.int (zi (pq_n T)), .ref aw, .ref av, .ref ax, .int (zi kk), .int (zi ka), .int (zi kb)])), (aw, .inl (cI, 8, .inl (zf (pq_w T)))), (av, .inl (cI, 8, .inl (zf (pq_v T)))), (ax, .inl (cI, 8, .inl (zf (pq_x T))))] sz) [(am, .inr (3, [.int (zi (pq_n (pq_fl T i.toNat y1 y2 y3))), .ref aw, .ref av, .ref ax, .int (zi kk), .int (zi ka), .int (zi kb)])), (aw, .inl (cI, 8, .inl (zf (pq_w (pq_fl T i.toNat y1 y2 y3))))), (av, .inl (cI, 8, .inl (zf (pq_v (pq_fl T i.toNat y1 y2 y3))))), (ax, .inl (cI, 8, .inl (zf (pq_x (pq_fl T i.toNat y1 y2 y3)))))]) (va_A [(am, .inr (3, [.int (zi (pq_n T)), .ref aw, .ref av, .ref ax, .int (zi kk), .int (zi ka), .int (zi kb)])), (aw, .inl (cI, 8, .inl (zf (pq_w T)))), (av, .inl (cI, 8, .inl (zf (pq_v T)))), (ax, .inl (cI, 8, .inl (zf (pq_x T))))] sz)) 0 0 (va_A [(am, .inr (3, [.int (zi (pq_n T)), .ref aw, .ref av, .ref ax, .int (zi kk), .int (zi ka), .int (zi kb)])), (aw, .inl (cI, 8, .inl (zf (pq_w T)))), (av, .inl (cI, 8, .inl (zf (pq_v T)))), (ax, .inl (cI, 8, .inl (zf (pq_x T))))] sz) := by
  refine Met.ofW (cc := cX3_fill) (maxL := 5) (ret := none) (by decide) rfl ?_
  intro p e s m args below meth c s₁ B hml hv
  obtain ⟨rfl, hsz, hP, hK, hD0⟩ := hv
  have hx := B.exec
  have hb := B.bytes
  have hr := B.returns
  have hts := atoms_spec (ws := zs_c_X3_fill) B.pre
  have hown : s.vm.findClass RX3 = some m.cls := findClass_of_methodNamed B.named
  have hlocks := B.notSynchronized
  have hiX3 : ∀ w ∈ wsX30, w ∈ zs_c_X3_fill := by decide +kernel
  subst hsz
  have hD := hD0.self (sz := s.heap.size)
  generalize hAe : va_A [(am, .inr (3, [.int (zi (pq_n T)), .ref aw, .ref av, .ref ax, .int (zi kk), .int (zi ka), .int (zi kb)])), (aw, .inl (cI, 8, .inl (zf (pq_w T)))), (av, .inl (cI, 8, .inl (zf (pq_v T)))), (ax, .inl (cI, 8, .inl (zf (pq_x T))))] s.heap.size = A at hD ⊢
  have hA : ∀ q : Nat, s.heap.size ≤ q → A q := fun q h => by rw [← hAe]; exact Or.inr h
  have hS : va_S A s.heap s.heap [] := va_S.rf
  have hl := lv_entry ([.ref am, .int (zi i), .int (zi y1), .int (zi y2), .int (zi y3)]) (n := 5) (Nat.le_of_ble_eq_true rfl)
  rw [lg_entry_eq]
  generalize (lg_sl ([.ref am, .int (zi i), .int (zi y1), .int (zi y2), .int (zi y3)]) ++ List.replicate (5 - (lg_sl ([.ref am, .int (zi i), .int (zi y1), .int (zi y2), .int (zi y3)])).length) Slot.unset).toArray = ls at hl ⊢
  have hl : lv_has ls 5 [(0, .ref am), (1, .int (zi i)), (2, .int (zi y1)), (3, .int (zi y2)), (4, .int (zi y3))] := hl
  refine lv_iload_n hx hb dX3_fill_0 rfl (lv_at hl 1 rfl) ?_
  refine pz_if_lt (tgt := 32) hx hb (by omega) dX3_fill_1 (by decide) (fun c_1 => ?_) (fun c_1 => ?_)
  · exact absurd c_1 (by omega)
  · refine lv_iload_n hx hb dX3_fill_4 rfl (lv_at hl 1 rfl) ?_
    refine lv_bipush (v := zi 8) hx hb dX3_fill_5 (by decide) ?_
    refine pz_icmp_ge (tgt := 32) hx hb (by omega) dX3_fill_7 (by decide) (fun c_2 => ?_) (fun c_2 => ?_)
    · exact absurd c_2 (by omega)
    · refine lv_aload_n hx hb dX3_fill_10 rfl (lv_at hl 0 rfl) ?_
      refine va_get (D := (dC, dI)) (ci := 3) (v := .ref aw) (C := RX3) (T := TX3) (N := 7) hx hb hts hiX3 hown hK hP 0 rfl rfl 1 (by decide) (hts (.fieldLink RX3 15 "Haltingale$Machine" "writes" "[I") (by decide +kernel)) (fun _ h9 => h9) rfl dX3_fill_11 ?_
      refine lv_iload_n hx hb dX3_fill_14 rfl (lv_at hl 1 rfl) ?_
      refine lv_iload_n hx hb dX3_fill_15 rfl (lv_at hl 2 rfl) ?_
      refine pz_iast hx hb hK hP hD hS 1 0 rfl rfl (i := i) (x := y1) (by omega) dX3_fill_16 (fun H locs hP hD hS => ?_)
      have hP : va_P (dC, dI) vwCl [(am, .inr (3, [.int (zi (pq_n T)), .ref aw, .ref av, .ref ax, .int (zi kk), .int (zi ka), .int (zi kb)])), (aw, .inl (cI, 8, .inl (zf (pz_u (pq_w T) i.toNat y1)))), (av, .inl (cI, 8, .inl (zf (pq_v T)))), (ax, .inl (cI, 8, .inl (zf (pq_x T))))] H := hP
      have hD : va_D A [(am, .inr (3, [.int (zi (pq_n T)), .ref aw, .ref av, .ref ax, .int (zi kk), .int (zi ka), .int (zi kb)])), (aw, .inl (cI, 8, .inl (zf (pz_u (pq_w T) i.toNat y1)))), (av, .inl (cI, 8, .inl (zf (pq_v T)))), (ax, .inl (cI, 8, .inl (zf (pq_x T))))] := hD
      refine lv_aload_n hx hb dX3_fill_17 rfl (lv_at hl 0 rfl) ?_
      refine va_get (D := (dC, dI)) (ci := 3) (v := .ref av) (C := RX3) (T := TX3) (N := 7) hx hb hts hiX3 hown hK hP 0 rfl rfl 2 (by decide) (hts (.fieldLink RX3 19 "Haltingale$Machine" "moves" "[I") (by decide +kernel)) (fun _ h9 => h9) rfl dX3_fill_18 ?_
      refine lv_iload_n hx hb dX3_fill_21 rfl (lv_at hl 1 rfl) ?_
      refine lv_iload_n hx hb dX3_fill_22 rfl (lv_at hl 3 rfl) ?_
      refine pz_iast hx hb hK hP hD hS 2 0 rfl rfl (i := i) (x := y2) (by omega) dX3_fill_23 (fun H locs hP hD hS => ?_)
      have hP : va_P (dC, dI) vwCl [(am, .inr (3, [.int (zi (pq_n T)), .ref aw, .ref av, .ref ax, .int (zi kk), .int (zi ka), .int (zi kb)])), (aw, .inl (cI, 8, .inl (zf (pz_u (pq_w T) i.toNat y1)))), (av, .inl (cI, 8, .inl (zf (pz_u (pq_v T) i.toNat y2)))), (ax, .inl (cI, 8, .inl (zf (pq_x T))))] H := hP
      have hD : va_D A [(am, .inr (3, [.int (zi (pq_n T)), .ref aw, .ref av, .ref ax, .int (zi kk), .int (zi ka), .int (zi kb)])), (aw, .inl (cI, 8, .inl (zf (pz_u (pq_w T) i.toNat y1)))), (av, .inl (cI, 8, .inl (zf (pz_u (pq_v T) i.toNat y2)))), (ax, .inl (cI, 8, .inl (zf (pq_x T))))] := hD
      refine lv_aload_n hx hb dX3_fill_24 rfl (lv_at hl 0 rfl) ?_
      refine va_get (D := (dC, dI)) (ci := 3) (v := .ref ax) (C := RX3) (T := TX3) (N := 7) hx hb hts hiX3 hown hK hP 0 rfl rfl 3 (by decide) (hts (.fieldLink RX3 22 "Haltingale$Machine" "nexts" "[I") (by decide +kernel)) (fun _ h9 => h9) rfl dX3_fill_25 ?_
      refine lv_iload_n hx hb dX3_fill_28 rfl (lv_at hl 1 rfl) ?_
      refine lv_iload hx hb dX3_fill_29 (lv_at hl 4 rfl) ?_
      refine pz_iast hx hb hK hP hD hS 3 0 rfl rfl (i := i) (x := y3) (by omega) dX3_fill_31 (fun H locs hP hD hS => ?_)
      have hP : va_P (dC, dI) vwCl [(am, .inr (3, [.int (zi (pq_n T)), .ref aw, .ref av, .ref ax, .int (zi kk), .int (zi ka), .int (zi kb)])), (aw, .inl (cI, 8, .inl (zf (pz_u (pq_w T) i.toNat y1)))), (av, .inl (cI, 8, .inl (zf (pz_u (pq_v T) i.toNat y2)))), (ax, .inl (cI, 8, .inl (zf (pz_u (pq_x T) i.toNat y3))))] H := hP
      have hD : va_D A [(am, .inr (3, [.int (zi (pq_n T)), .ref aw, .ref av, .ref ax, .int (zi kk), .int (zi ka), .int (zi kb)])), (aw, .inl (cI, 8, .inl (zf (pz_u (pq_w T) i.toNat y1)))), (av, .inl (cI, 8, .inl (zf (pz_u (pq_v T) i.toNat y2)))), (ax, .inl (cI, 8, .inl (zf (pz_u (pq_x T) i.toNat y3))))] := hD
      have hP : va_P (dC, dI) vwCl [(am, .inr (3, [.int (zi (pq_n (pq_fl T i.toNat y1 y2 y3))), .ref aw, .ref av, .ref ax, .int (zi kk), .int (zi ka), .int (zi kb)])), (aw, .inl (cI, 8, .inl (zf (pq_w (pq_fl T i.toNat y1 y2 y3))))), (av, .inl (cI, 8, .inl (zf (pq_v (pq_fl T i.toNat y1 y2 y3))))), (ax, .inl (cI, 8, .inl (zf (pq_x (pq_fl T i.toNat y1 y2 y3)))))] H := hP
      have hD : va_D A [(am, .inr (3, [.int (zi (pq_n (pq_fl T i.toNat y1 y2 y3))), .ref aw, .ref av, .ref ax, .int (zi kk), .int (zi ka), .int (zi kb)])), (aw, .inl (cI, 8, .inl (zf (pq_w (pq_fl T i.toNat y1 y2 y3))))), (av, .inl (cI, 8, .inl (zf (pq_v (pq_fl T i.toNat y1 y2 y3))))), (ax, .inl (cI, 8, .inl (zf (pq_x (pq_fl T i.toNat y1 y2 y3)))))] := hD
      refine W.widen (k := 0) (n := 0) (Nat.le_of_ble_eq_true rfl) (Nat.le_of_ble_eq_true rfl) ?_
      exact W.vret hx hb hr (fun t ht hW => ⟨⟨(), rfl, trivial, ⟨by rw [ht]; exact hP, va_K.moved hW.alike hK, hD⟩⟩, hS.F ht⟩) hS.2.2 dX3_fill_32

def zs_c_X3_countCells : List Cond := .code yX3_countCells cX3_countCells 1 (some .int) :: (([.fieldLink RX3 9 "Haltingale$Machine" "states" "I"] : List Cond) ++ wsX30)
set_option maxHeartbeats 4000000 in
set_option maxRecDepth 100000 in
theorem c_X3_countCells (l : Launch) (dC : Nat → ClassId) (dI : Nat → Nat → Nat) (cI cZ cM cT : ClassId) (sz : Nat) (am : Nat) (aw : Nat) (av : Nat) (ax : Nat) (T : pq_T) (kk : Int) (ka : Int) (kb : Int)  : Met l yX3_countCells zs_c_X3_countCells ({ frames := 0, cells := 0, slots := 0, locals := 0 }) (va_Pc [.ref am] (fun U => U.heap.size = sz ∧ va_P (dC, dI) vwCl [(am, .inr (3, [.int (zi (pq_n T)), .ref aw, .ref av, .ref ax, .int (zi kk), .int (zi ka), .int (zi kb)])), (aw, .inl (cI, 8, .inl (zf (pq_w T)))), (av, .inl (cI, 8, .inl (zf (pq_v T)))), (ax, .inl (cI, 8, .inl (zf (pq_x T))))] U.heap ∧ va_K (dC, dI) vwCl (zT4 cI cZ cM cT) U ∧ va_D (fun _ => True) [(am, .inr (3, [.int (zi (pq_n T)), .ref aw, .ref av, .ref ax, .int (zi kk), .int (zi ka), .int (zi kb)])), (aw, .inl (cI, 8, .inl (zf (pq_w T)))), (av, .inl (cI, 8, .inl (zf (pq_v T)))), (ax, .inl (cI, 8, .inl (zf (pq_x T))))])) (va_Qi (fun (r : Int32) (_ : Unit) => r = zi (2 * pq_n T)) (fun _ t => va_P (dC, dI) vwCl [(am, .inr (3, [.int (zi (pq_n T)), .ref aw, .ref av, .ref ax, .int (zi kk), .int (zi ka), .int (zi kb)])), (aw, .inl (cI, 8, .inl (zf (pq_w T)))), (av, .inl (cI, 8, .inl (zf (pq_v T)))), (ax, .inl (cI, 8, .inl (zf (pq_x T))))] t.heap ∧ va_K (dC, dI) vwCl (zT4 cI cZ cM cT) t ∧ va_D (va_A [(am, .inr (3, [.int (zi (pq_n T)), .ref aw, .ref av, .ref ax, .int (zi kk), .int (zi ka), .int (zi kb)])), (aw, .inl (cI, 8, .inl (zf (pq_w T)))), (av, .inl (cI, 8, .inl (zf (pq_v T)))), (ax, .inl (cI, 8, .inl (zf (pq_x T))))] sz) [(am, .inr (3, [.int (zi (pq_n T)), .ref aw, .ref av, .ref ax, .int (zi kk), .int (zi ka), .int (zi kb)])), (aw, .inl (cI, 8, .inl (zf (pq_w T)))), (av, .inl (cI, 8, .inl (zf (pq_v T)))), (ax, .inl (cI, 8, .inl (zf (pq_x T))))]) (va_A [(am, .inr (3, [.int (zi (pq_n T)), .ref aw, .ref av, .ref ax, .int (zi kk), .int (zi ka), .int (zi kb)])), (aw, .inl (cI, 8, .inl (zf (pq_w T)))), (av, .inl (cI, 8, .inl (zf (pq_v T)))), (ax, .inl (cI, 8, .inl (zf (pq_x T))))] sz)) 0 0 (va_A [(am, .inr (3, [.int (zi (pq_n T)), .ref aw, .ref av, .ref ax, .int (zi kk), .int (zi ka), .int (zi kb)])), (aw, .inl (cI, 8, .inl (zf (pq_w T)))), (av, .inl (cI, 8, .inl (zf (pq_v T)))), (ax, .inl (cI, 8, .inl (zf (pq_x T))))] sz) := by
  refine Met.ofW (cc := cX3_countCells) (maxL := 1) (ret := (some .int)) (by decide) rfl ?_
  intro p e s m args below meth c s₁ B hml hv
  obtain ⟨rfl, hsz, hP, hK, hD0⟩ := hv
  have hx := B.exec
  have hb := B.bytes
  have hr := B.returns
  have hts := atoms_spec (ws := zs_c_X3_countCells) B.pre
  have hown : s.vm.findClass RX3 = some m.cls := findClass_of_methodNamed B.named
  have hlocks := B.notSynchronized
  have hiX3 : ∀ w ∈ wsX30, w ∈ zs_c_X3_countCells := by decide +kernel
  subst hsz
  have hD := hD0.self (sz := s.heap.size)
  generalize hAe : va_A [(am, .inr (3, [.int (zi (pq_n T)), .ref aw, .ref av, .ref ax, .int (zi kk), .int (zi ka), .int (zi kb)])), (aw, .inl (cI, 8, .inl (zf (pq_w T)))), (av, .inl (cI, 8, .inl (zf (pq_v T)))), (ax, .inl (cI, 8, .inl (zf (pq_x T))))] s.heap.size = A at hD ⊢
  have hA : ∀ q : Nat, s.heap.size ≤ q → A q := fun q h => by rw [← hAe]; exact Or.inr h
  have hS : va_S A s.heap s.heap [] := va_S.rf
  have hl := lv_entry ([.ref am]) (n := 1) (Nat.le_of_ble_eq_true rfl)
  rw [lg_entry_eq]
  generalize (lg_sl ([.ref am]) ++ List.replicate (1 - (lg_sl ([.ref am])).length) Slot.unset).toArray = ls at hl ⊢
  have hl : lv_has ls 1 [(0, .ref am)] := hl
  refine lv_iconst (v := zi 2) hx hb dX3_countCells_0 (by decide) ?_
  refine lv_aload_n hx hb dX3_countCells_1 rfl (lv_at hl 0 rfl) ?_
  refine va_get (D := (dC, dI)) (ci := 3) (v := .int (zi (pq_n T))) (C := RX3) (T := TX3) (N := 7) hx hb hts hiX3 hown hK hP 0 rfl rfl 0 (by decide) (hts (.fieldLink RX3 9 "Haltingale$Machine" "states" "I") (by decide +kernel)) (fun _ h9 => h9) rfl dX3_countCells_2 ?_
  refine pz_imul hx hb dX3_countCells_5 ?_
  refine W.widen (k := 0) (n := 0) (Nat.le_of_ble_eq_true rfl) (Nat.le_of_ble_eq_true rfl) ?_
  exact W.iret (v := (zi (2 * (pq_n T)))) hx hb hr (fun t ht hW => ⟨⟨(zi (2 * (pq_n T))), (), rfl, congrArg zi (by first | rfl | omega), ⟨by rw [ht]; exact hP, va_K.moved hW.alike hK, hD⟩⟩, hS.F ht⟩) hS.2.2 dX3_countCells_6

def zs_c_X3_countEmpty : List Cond := .code yX3_countEmpty cX3_countEmpty 3 (some .int) :: (([.code yX3_countCells cX3_countCells 1 (some .int), .fieldLink RX3 9 "Haltingale$Machine" "states" "I", .methodLink RX3 42 yX3_countCells, .instanceMethod yX3_countCells, .initialized RX3, .selects RX3 yX3_countCells yX3_countCells, .code yX3_isEmpty cX3_isEmpty 2 (some .boolean), .fieldLink RX3 15 "Haltingale$Machine" "writes" "[I", .methodLink RX3 34 yX3_isEmpty, .instanceMethod yX3_isEmpty, .selects RX3 yX3_isEmpty yX3_isEmpty] : List Cond) ++ wsX30)
set_option maxHeartbeats 4000000 in
set_option maxRecDepth 100000 in
theorem c_X3_countEmpty (l : Launch) (dC : Nat → ClassId) (dI : Nat → Nat → Nat) (cI cZ cM cT : ClassId) (sz : Nat) (am : Nat) (aw : Nat) (av : Nat) (ax : Nat) (T : pq_T) (kk : Int) (ka : Int) (kb : Int) (hok : pq_ok T) : Met l yX3_countEmpty zs_c_X3_countEmpty ({ frames := 1, cells := 0, slots := 0, locals := 21 }) (va_Pc [.ref am] (fun U => U.heap.size = sz ∧ va_P (dC, dI) vwCl [(am, .inr (3, [.int (zi (pq_n T)), .ref aw, .ref av, .ref ax, .int (zi kk), .int (zi ka), .int (zi kb)])), (aw, .inl (cI, 8, .inl (zf (pq_w T)))), (av, .inl (cI, 8, .inl (zf (pq_v T)))), (ax, .inl (cI, 8, .inl (zf (pq_x T))))] U.heap ∧ va_K (dC, dI) vwCl (zT4 cI cZ cM cT) U ∧ va_D (fun _ => True) [(am, .inr (3, [.int (zi (pq_n T)), .ref aw, .ref av, .ref ax, .int (zi kk), .int (zi ka), .int (zi kb)])), (aw, .inl (cI, 8, .inl (zf (pq_w T)))), (av, .inl (cI, 8, .inl (zf (pq_v T)))), (ax, .inl (cI, 8, .inl (zf (pq_x T))))])) (va_Qi (fun (r : Int32) (_ : Unit) => r = zi (pq_ce T (2 * pq_n T).toNat)) (fun _ t => va_P (dC, dI) vwCl [(am, .inr (3, [.int (zi (pq_n T)), .ref aw, .ref av, .ref ax, .int (zi kk), .int (zi ka), .int (zi kb)])), (aw, .inl (cI, 8, .inl (zf (pq_w T)))), (av, .inl (cI, 8, .inl (zf (pq_v T)))), (ax, .inl (cI, 8, .inl (zf (pq_x T))))] t.heap ∧ va_K (dC, dI) vwCl (zT4 cI cZ cM cT) t ∧ va_D (va_A [(am, .inr (3, [.int (zi (pq_n T)), .ref aw, .ref av, .ref ax, .int (zi kk), .int (zi ka), .int (zi kb)])), (aw, .inl (cI, 8, .inl (zf (pq_w T)))), (av, .inl (cI, 8, .inl (zf (pq_v T)))), (ax, .inl (cI, 8, .inl (zf (pq_x T))))] sz) [(am, .inr (3, [.int (zi (pq_n T)), .ref aw, .ref av, .ref ax, .int (zi kk), .int (zi ka), .int (zi kb)])), (aw, .inl (cI, 8, .inl (zf (pq_w T)))), (av, .inl (cI, 8, .inl (zf (pq_v T)))), (ax, .inl (cI, 8, .inl (zf (pq_x T))))]) (va_A [(am, .inr (3, [.int (zi (pq_n T)), .ref aw, .ref av, .ref ax, .int (zi kk), .int (zi ka), .int (zi kb)])), (aw, .inl (cI, 8, .inl (zf (pq_w T)))), (av, .inl (cI, 8, .inl (zf (pq_v T)))), (ax, .inl (cI, 8, .inl (zf (pq_x T))))] sz)) 0 0 (va_A [(am, .inr (3, [.int (zi (pq_n T)), .ref aw, .ref av, .ref ax, .int (zi kk), .int (zi ka), .int (zi kb)])), (aw, .inl (cI, 8, .inl (zf (pq_w T)))), (av, .inl (cI, 8, .inl (zf (pq_v T)))), (ax, .inl (cI, 8, .inl (zf (pq_x T))))] sz) := by
  refine Met.ofW (cc := cX3_countEmpty) (maxL := 3) (ret := (some .int)) (by decide) rfl ?_
  intro p e s m args below meth c s₁ B hml hv
  obtain ⟨rfl, hsz, hP, hK, hD0⟩ := hv
  have hx := B.exec
  have hb := B.bytes
  have hr := B.returns
  have hts := atoms_spec (ws := zs_c_X3_countEmpty) B.pre
  have hown : s.vm.findClass RX3 = some m.cls := findClass_of_methodNamed B.named
  have hlocks := B.notSynchronized
  subst hsz
  have hD := hD0.self (sz := s.heap.size)
  generalize hAe : va_A [(am, .inr (3, [.int (zi (pq_n T)), .ref aw, .ref av, .ref ax, .int (zi kk), .int (zi ka), .int (zi kb)])), (aw, .inl (cI, 8, .inl (zf (pq_w T)))), (av, .inl (cI, 8, .inl (zf (pq_v T)))), (ax, .inl (cI, 8, .inl (zf (pq_x T))))] s.heap.size = A at hD ⊢
  have hA : ∀ q : Nat, s.heap.size ≤ q → A q := fun q h => by rw [← hAe]; exact Or.inr h
  have hS : va_S A s.heap s.heap [] := va_S.rf
  have hl := lv_entry ([.ref am]) (n := 3) (Nat.le_of_ble_eq_true rfl)
  rw [lg_entry_eq]
  generalize (lg_sl ([.ref am]) ++ List.replicate (3 - (lg_sl ([.ref am])).length) Slot.unset).toArray = ls at hl ⊢
  have hl : lv_has ls 3 [(0, .ref am)] := hl
  have hn := hok.1
  refine lv_iconst (v := zi 0) hx hb dX3_countEmpty_0 (by decide) ?_
  refine lv_istore_n (lv' := [(1, .int (zi 0)), (0, .ref am)]) hx hb dX3_countEmpty_1 rfl hl (by decide) rfl (fun ls hl => ?_)
  refine lv_iconst (v := zi 0) hx hb dX3_countEmpty_2 (by decide) ?_
  refine lv_istore_n (lv' := [(2, .int (zi 0)), (1, .int (zi 0)), (0, .ref am)]) hx hb dX3_countEmpty_3 rfl hl (by decide) rfl (fun ls hl => ?_)
  refine pz_loop (fun n H locs ls => ∃ (q : Int) (j : Int) , n = (2 * pq_n T - j).toNat ∧ (0 ≤ j ∧ j ≤ 2 * pq_n T) ∧ (q = pq_ce T j.toNat) ∧ va_P (dC, dI) vwCl [(am, .inr (3, [.int (zi (pq_n T)), .ref aw, .ref av, .ref ax, .int (zi kk), .int (zi ka), .int (zi kb)])), (aw, .inl (cI, 8, .inl (zf (pq_w T)))), (av, .inl (cI, 8, .inl (zf (pq_v T)))), (ax, .inl (cI, 8, .inl (zf (pq_x T))))] H ∧ va_D A [(am, .inr (3, [.int (zi (pq_n T)), .ref aw, .ref av, .ref ax, .int (zi kk), .int (zi ka), .int (zi kb)])), (aw, .inl (cI, 8, .inl (zf (pq_w T)))), (av, .inl (cI, 8, .inl (zf (pq_v T)))), (ax, .inl (cI, 8, .inl (zf (pq_x T))))] ∧ va_S A s.heap H locs ∧ lv_has ls 3 [(0, .ref am), (1, .int (zi q)), (2, .int (zi j))]) (fun n_4 H locs ls hI ih_4 => ?_) _ ⟨0, 0, rfl, (by first | assumption | omega | rfl), rfl, hP, hD, hS, lv_sub hl [2, 1, 0] rfl⟩
  obtain ⟨q, j, hn_4, hj, hq, hP, hD, hS, hl⟩ := hI
  refine lv_iload_n hx hb dX3_countEmpty_4 rfl (lv_at hl 2 rfl) ?_
  refine lv_aload_n hx hb dX3_countEmpty_5 rfl (lv_at hl 0 rfl) ?_
  have hPc := hP.sub (ws' := [(am, .inr (3, [.int (zi (pq_n T)), .ref aw, .ref av, .ref ax, .int (zi kk), .int (zi ka), .int (zi kb)])), (aw, .inl (cI, 8, .inl (zf (pq_w T)))), (av, .inl (cI, 8, .inl (zf (pq_v T)))), (ax, .inl (cI, 8, .inl (zf (pq_x T))))]) [0, 1, 2, 3] rfl
  have hDc := hD.sub (ws' := [(am, .inr (3, [.int (zi (pq_n T)), .ref aw, .ref av, .ref ax, .int (zi kk), .int (zi ka), .int (zi kb)])), (aw, .inl (cI, 8, .inl (zf (pq_w T)))), (av, .inl (cI, 8, .inl (zf (pq_v T)))), (ax, .inl (cI, 8, .inl (zf (pq_x T))))]) [0, 1, 2, 3] (by decide) rfl
  have hFc := va_free (wc := [(am, .inr (3, [.int (zi (pq_n T)), .ref aw, .ref av, .ref ax, .int (zi kk), .int (zi ka), .int (zi kb)])), (aw, .inl (cI, 8, .inl (zf (pq_w T)))), (av, .inl (cI, 8, .inl (zf (pq_v T)))), (ax, .inl (cI, 8, .inl (zf (pq_x T))))]) hD hS hA [0, 1, 2, 3] rfl
  refine va_calli (va_runV (As := []) (rest := [.int (zi j)]) ⟨hx, hb, hml, hown, hts⟩ (c_X3_countCells l dC dI cI cZ cM cT H.size am aw av ax T kk ka kb ) (cwV 0 hts (goodIn_of _ (by decide +kernel)) rfl rfl rfl (by decide +kernel) ⟨Nat.le_of_ble_eq_true rfl, Nat.le_of_ble_eq_true rfl⟩) ⟨fun a U g mk q => by obtain ⟨q0, q1, qP, qK, qD⟩ := q; exact ⟨q0, q1, qP, va_K.moved (u := U) (U := U.calling g mk a) (Vm.Alike.refl U.vm) qK, qD⟩, va_recv hK hPc (ci := 3) (q0 := 0) rfl rfl, fun U hU hW => ⟨rfl, by rw [hU], by rw [hU]; exact hPc, va_K.moved hW.alike hK, hDc.weaken (fun _ _ _ _ => trivial)⟩⟩ rfl rfl hl.1 rfl (lv_room (Nat.le_of_ble_eq_true rfl)) dX3_countEmpty_6 ⟨Nat.le_of_ble_eq_true rfl, Nat.le_of_ble_eq_true rfl⟩) hS (fun q _ h => hFc q h) hFc (fun r_1 u t H1 locs ht hvm hw hB hz1 hk1 hS => ?_)
  obtain ⟨hP1, hK1, hD1⟩ := hB
  rw [ht] at hP1
  obtain ⟨hP, hD⟩ := va_join (wr := []) (w1 := [(am, .inr (3, [.int (zi (pq_n T)), .ref aw, .ref av, .ref ax, .int (zi kk), .int (zi ka), .int (zi kb)])), (aw, .inl (cI, 8, .inl (zf (pq_w T)))), (av, .inl (cI, 8, .inl (zf (pq_v T)))), (ax, .inl (cI, 8, .inl (zf (pq_x T))))]) hP hD [0, 1, 2, 3] [] rfl rfl (by decide) (by decide) hk1 hFc hP1 hD1
  generalize H1 = H at hP hS ⊢
  have hP : va_P (dC, dI) vwCl [(am, .inr (3, [.int (zi (pq_n T)), .ref aw, .ref av, .ref ax, .int (zi kk), .int (zi ka), .int (zi kb)])), (aw, .inl (cI, 8, .inl (zf (pq_w T)))), (av, .inl (cI, 8, .inl (zf (pq_v T)))), (ax, .inl (cI, 8, .inl (zf (pq_x T))))] H := hP
  have hD : va_D A [(am, .inr (3, [.int (zi (pq_n T)), .ref aw, .ref av, .ref ax, .int (zi kk), .int (zi ka), .int (zi kb)])), (aw, .inl (cI, 8, .inl (zf (pq_w T)))), (av, .inl (cI, 8, .inl (zf (pq_v T)))), (ax, .inl (cI, 8, .inl (zf (pq_x T))))] := hD
  refine W.widen (k := 0) (n := 0) (Nat.le_of_ble_eq_true rfl) (Nat.le_of_ble_eq_true rfl) ?_
  obtain rfl : r_1 = zi (2 * pq_n T) := hw
  refine pz_icmp_ge (tgt := 29) hx hb (by omega) dX3_countEmpty_9 (by decide) (fun c_2 => ?_) (fun c_2 => ?_)
  · refine lv_iload_n hx hb dX3_countEmpty_29 rfl (lv_at hl 1 rfl) ?_
    refine W.widen (k := 0) (n := 0) (Nat.le_of_ble_eq_true rfl) (Nat.le_of_ble_eq_true rfl) ?_
    exact W.iret (v := (zi q)) hx hb hr (fun t ht hW => ⟨⟨(zi q), (), rfl, congrArg zi (by rw [hq, show j = 2 * pq_n T by omega]), ⟨by rw [ht]; exact hP, va_K.moved hW.alike hK, hD⟩⟩, hS.F ht⟩) hS.2.2 dX3_countEmpty_30
  · refine lv_aload_n hx hb dX3_countEmpty_12 rfl (lv_at hl 0 rfl) ?_
    refine lv_iload_n hx hb dX3_countEmpty_13 rfl (lv_at hl 2 rfl) ?_
    have hPc := hP.sub (ws' := [(am, .inr (3, [.int (zi (pq_n T)), .ref aw, .ref av, .ref ax, .int (zi kk), .int (zi ka), .int (zi kb)])), (aw, .inl (cI, 8, .inl (zf (pq_w T)))), (av, .inl (cI, 8, .inl (zf (pq_v T)))), (ax, .inl (cI, 8, .inl (zf (pq_x T))))]) [0, 1, 2, 3] rfl
    have hDc := hD.sub (ws' := [(am, .inr (3, [.int (zi (pq_n T)), .ref aw, .ref av, .ref ax, .int (zi kk), .int (zi ka), .int (zi kb)])), (aw, .inl (cI, 8, .inl (zf (pq_w T)))), (av, .inl (cI, 8, .inl (zf (pq_v T)))), (ax, .inl (cI, 8, .inl (zf (pq_x T))))]) [0, 1, 2, 3] (by decide) rfl
    have hFc := va_free (wc := [(am, .inr (3, [.int (zi (pq_n T)), .ref aw, .ref av, .ref ax, .int (zi kk), .int (zi ka), .int (zi kb)])), (aw, .inl (cI, 8, .inl (zf (pq_w T)))), (av, .inl (cI, 8, .inl (zf (pq_v T)))), (ax, .inl (cI, 8, .inl (zf (pq_x T))))]) hD hS hA [0, 1, 2, 3] rfl
    refine va_calli (va_runV (As := [.int (zi j)]) (rest := []) ⟨hx, hb, hml, hown, hts⟩ (c_X3_isEmpty l dC dI cI cZ cM cT H.size am aw av ax T kk ka kb j (by first | assumption | omega | rfl) (by first | assumption | omega | rfl)) (cwV 1 hts (goodIn_of _ (by decide +kernel)) rfl rfl rfl (by decide +kernel) ⟨Nat.le_of_ble_eq_true rfl, Nat.le_of_ble_eq_true rfl⟩) ⟨fun a U g mk q => by obtain ⟨q0, q1, qP, qK, qD⟩ := q; exact ⟨q0, q1, qP, va_K.moved (u := U) (U := U.calling g mk a) (Vm.Alike.refl U.vm) qK, qD⟩, va_recv hK hPc (ci := 3) (q0 := 0) rfl rfl, fun U hU hW => ⟨rfl, by rw [hU], by rw [hU]; exact hPc, va_K.moved hW.alike hK, hDc.weaken (fun _ _ _ _ => trivial)⟩⟩ rfl rfl hl.1 rfl (lv_room (Nat.le_of_ble_eq_true rfl)) dX3_countEmpty_14 ⟨Nat.le_of_ble_eq_true rfl, Nat.le_of_ble_eq_true rfl⟩) hS (fun q _ h => hFc q h) hFc (fun r_3 u t H1 locs ht hvm hw hB hz1 hk1 hS => ?_)
    obtain ⟨hP1, hK1, hD1⟩ := hB
    rw [ht] at hP1
    obtain ⟨hP, hD⟩ := va_join (wr := []) (w1 := [(am, .inr (3, [.int (zi (pq_n T)), .ref aw, .ref av, .ref ax, .int (zi kk), .int (zi ka), .int (zi kb)])), (aw, .inl (cI, 8, .inl (zf (pq_w T)))), (av, .inl (cI, 8, .inl (zf (pq_v T)))), (ax, .inl (cI, 8, .inl (zf (pq_x T))))]) hP hD [0, 1, 2, 3] [] rfl rfl (by decide) (by decide) hk1 hFc hP1 hD1
    generalize H1 = H at hP hS ⊢
    have hP : va_P (dC, dI) vwCl [(am, .inr (3, [.int (zi (pq_n T)), .ref aw, .ref av, .ref ax, .int (zi kk), .int (zi ka), .int (zi kb)])), (aw, .inl (cI, 8, .inl (zf (pq_w T)))), (av, .inl (cI, 8, .inl (zf (pq_v T)))), (ax, .inl (cI, 8, .inl (zf (pq_x T))))] H := hP
    have hD : va_D A [(am, .inr (3, [.int (zi (pq_n T)), .ref aw, .ref av, .ref ax, .int (zi kk), .int (zi ka), .int (zi kb)])), (aw, .inl (cI, 8, .inl (zf (pq_w T)))), (av, .inl (cI, 8, .inl (zf (pq_v T)))), (ax, .inl (cI, 8, .inl (zf (pq_x T))))] := hD
    refine W.widen (k := 0) (n := 0) (Nat.le_of_ble_eq_true rfl) (Nat.le_of_ble_eq_true rfl) ?_
    obtain rfl : r_3 = zi (pb (pq_E T j)) := hw
    refine pz_ifb_eq (tgt := 23) hx hb dX3_countEmpty_17 (by decide) (fun c_4 => ?_) (fun c_4 => ?_)
    · refine pz_iinc (lv' := [(2, .int (zi (j + 1))), (0, .ref am), (1, .int (zi q))]) hx hb dX3_countEmpty_23 hl (k := 2) rfl (by decide) rfl (fun ls hl => ?_)
      refine lv_goto (tgt := 4) hx hb dX3_countEmpty_26 (by decide) ?_
      exact ih_4 _ _ _ _ ⟨q, j + 1, rfl, (by first | assumption | omega | rfl), by rw [hq, pq_ce_f hj.1 c_4], hP, hD, hS, lv_sub hl [1, 2, 0] rfl⟩ (by omega)
    · refine pz_iinc (lv' := [(1, .int (zi (q + 1))), (0, .ref am), (2, .int (zi j))]) hx hb dX3_countEmpty_20 hl (k := 1) rfl (by decide) rfl (fun ls hl => ?_)
      refine pz_iinc (lv' := [(2, .int (zi (j + 1))), (1, .int (zi (q + 1))), (0, .ref am)]) hx hb dX3_countEmpty_23 hl (k := 2) rfl (by decide) rfl (fun ls hl => ?_)
      refine lv_goto (tgt := 4) hx hb dX3_countEmpty_26 (by decide) ?_
      exact ih_4 _ _ _ _ ⟨q + 1, j + 1, rfl, (by first | assumption | omega | rfl), by rw [hq, pq_ce_t hj.1 c_4], hP, hD, hS, lv_sub hl [2, 1, 0] rfl⟩ (by omega)

def zs_c_X3_countFillings : List Cond := .code yX3_countFillings cX3_countFillings 3 (some .int) :: (([.code yX3_countCells cX3_countCells 1 (some .int), .fieldLink RX3 9 "Haltingale$Machine" "states" "I", .methodLink RX3 42 yX3_countCells, .instanceMethod yX3_countCells, .initialized RX3, .selects RX3 yX3_countCells yX3_countCells, .methodLink RX3 55 Lib.Math.min.name, .static Lib.Math.min.name, .initialized "java/lang/Math", .code Lib.Math.min.name Lib.Math.min.code 2 (some .int), .code yX3_isEnd cX3_isEnd 2 (some .boolean), .code yX3_isEmpty cX3_isEmpty 2 (some .boolean), .fieldLink RX3 15 "Haltingale$Machine" "writes" "[I", .methodLink RX3 34 yX3_isEmpty, .instanceMethod yX3_isEmpty, .selects RX3 yX3_isEmpty yX3_isEmpty, .code yX3_nextOf cX3_nextOf 2 (some .int), .fieldLink RX3 22 "Haltingale$Machine" "nexts" "[I", .methodLink RX3 38 yX3_nextOf, .instanceMethod yX3_nextOf, .selects RX3 yX3_nextOf yX3_nextOf, .methodLink RX3 46 yX3_isEnd, .instanceMethod yX3_isEnd, .selects RX3 yX3_isEnd yX3_isEnd, .methodLink RX3 49 Lib.Math.max.name, .static Lib.Math.max.name, .code Lib.Math.max.name Lib.Math.max.code 2 (some .int)] : List Cond) ++ wsX30)
set_option maxHeartbeats 4000000 in
set_option maxRecDepth 100000 in
theorem c_X3_countFillings (l : Launch) (dC : Nat → ClassId) (dI : Nat → Nat → Nat) (cI cZ cM cT : ClassId) (sz : Nat) (am : Nat) (aw : Nat) (av : Nat) (ax : Nat) (T : pq_T) (kk : Int) (ka : Int) (kb : Int) (hok : pq_ok T) : Met l yX3_countFillings zs_c_X3_countFillings ({ frames := 2, cells := 0, slots := 0, locals := 42 }) (va_Pc [.ref am] (fun U => U.heap.size = sz ∧ va_P (dC, dI) vwCl [(am, .inr (3, [.int (zi (pq_n T)), .ref aw, .ref av, .ref ax, .int (zi kk), .int (zi ka), .int (zi kb)])), (aw, .inl (cI, 8, .inl (zf (pq_w T)))), (av, .inl (cI, 8, .inl (zf (pq_v T)))), (ax, .inl (cI, 8, .inl (zf (pq_x T))))] U.heap ∧ va_K (dC, dI) vwCl (zT4 cI cZ cM cT) U ∧ va_D (fun _ => True) [(am, .inr (3, [.int (zi (pq_n T)), .ref aw, .ref av, .ref ax, .int (zi kk), .int (zi ka), .int (zi kb)])), (aw, .inl (cI, 8, .inl (zf (pq_w T)))), (av, .inl (cI, 8, .inl (zf (pq_v T)))), (ax, .inl (cI, 8, .inl (zf (pq_x T))))])) (va_Qi (fun (r : Int32) (_ : Unit) => r = zi (pq_wy T)) (fun _ t => va_P (dC, dI) vwCl [(am, .inr (3, [.int (zi (pq_n T)), .ref aw, .ref av, .ref ax, .int (zi kk), .int (zi ka), .int (zi kb)])), (aw, .inl (cI, 8, .inl (zf (pq_w T)))), (av, .inl (cI, 8, .inl (zf (pq_v T)))), (ax, .inl (cI, 8, .inl (zf (pq_x T))))] t.heap ∧ va_K (dC, dI) vwCl (zT4 cI cZ cM cT) t ∧ va_D (va_A [(am, .inr (3, [.int (zi (pq_n T)), .ref aw, .ref av, .ref ax, .int (zi kk), .int (zi ka), .int (zi kb)])), (aw, .inl (cI, 8, .inl (zf (pq_w T)))), (av, .inl (cI, 8, .inl (zf (pq_v T)))), (ax, .inl (cI, 8, .inl (zf (pq_x T))))] sz) [(am, .inr (3, [.int (zi (pq_n T)), .ref aw, .ref av, .ref ax, .int (zi kk), .int (zi ka), .int (zi kb)])), (aw, .inl (cI, 8, .inl (zf (pq_w T)))), (av, .inl (cI, 8, .inl (zf (pq_v T)))), (ax, .inl (cI, 8, .inl (zf (pq_x T))))]) (va_A [(am, .inr (3, [.int (zi (pq_n T)), .ref aw, .ref av, .ref ax, .int (zi kk), .int (zi ka), .int (zi kb)])), (aw, .inl (cI, 8, .inl (zf (pq_w T)))), (av, .inl (cI, 8, .inl (zf (pq_v T)))), (ax, .inl (cI, 8, .inl (zf (pq_x T))))] sz)) 0 0 (va_A [(am, .inr (3, [.int (zi (pq_n T)), .ref aw, .ref av, .ref ax, .int (zi kk), .int (zi ka), .int (zi kb)])), (aw, .inl (cI, 8, .inl (zf (pq_w T)))), (av, .inl (cI, 8, .inl (zf (pq_v T)))), (ax, .inl (cI, 8, .inl (zf (pq_x T))))] sz) := by
  refine Met.ofW (cc := cX3_countFillings) (maxL := 3) (ret := (some .int)) (by decide) rfl ?_
  intro p e s m args below meth c s₁ B hml hv
  obtain ⟨rfl, hsz, hP, hK, hD0⟩ := hv
  have hx := B.exec
  have hb := B.bytes
  have hr := B.returns
  have hts := atoms_spec (ws := zs_c_X3_countFillings) B.pre
  have hown : s.vm.findClass RX3 = some m.cls := findClass_of_methodNamed B.named
  have hlocks := B.notSynchronized
  have hiX3 : ∀ w ∈ wsX30, w ∈ zs_c_X3_countFillings := by decide +kernel
  subst hsz
  have hD := hD0.self (sz := s.heap.size)
  generalize hAe : va_A [(am, .inr (3, [.int (zi (pq_n T)), .ref aw, .ref av, .ref ax, .int (zi kk), .int (zi ka), .int (zi kb)])), (aw, .inl (cI, 8, .inl (zf (pq_w T)))), (av, .inl (cI, 8, .inl (zf (pq_v T)))), (ax, .inl (cI, 8, .inl (zf (pq_x T))))] s.heap.size = A at hD ⊢
  have hA : ∀ q : Nat, s.heap.size ≤ q → A q := fun q h => by rw [← hAe]; exact Or.inr h
  have hS : va_S A s.heap s.heap [] := va_S.rf
  have hl := lv_entry ([.ref am]) (n := 3) (Nat.le_of_ble_eq_true rfl)
  rw [lg_entry_eq]
  generalize (lg_sl ([.ref am]) ++ List.replicate (3 - (lg_sl ([.ref am])).length) Slot.unset).toArray = ls at hl ⊢
  have hl : lv_has ls 3 [(0, .ref am)] := hl
  have hn := hok.1
  refine lv_iconst (v := zi 0) hx hb dX3_countFillings_0 (by decide) ?_
  refine lv_istore_n (lv' := [(1, .int (zi 0)), (0, .ref am)]) hx hb dX3_countFillings_1 rfl hl (by decide) rfl (fun ls hl => ?_)
  refine lv_iconst (v := zi 0) hx hb dX3_countFillings_2 (by decide) ?_
  refine lv_istore_n (lv' := [(2, .int (zi 0)), (1, .int (zi 0)), (0, .ref am)]) hx hb dX3_countFillings_3 rfl hl (by decide) rfl (fun ls hl => ?_)
  refine pz_loop (fun n H locs ls => ∃ (q : Int) (j : Int) , n = (2 * pq_n T - j).toNat ∧ (0 ≤ j ∧ j ≤ 2 * pq_n T) ∧ (q = pq_gx T j.toNat) ∧ va_P (dC, dI) vwCl [(am, .inr (3, [.int (zi (pq_n T)), .ref aw, .ref av, .ref ax, .int (zi kk), .int (zi ka), .int (zi kb)])), (aw, .inl (cI, 8, .inl (zf (pq_w T)))), (av, .inl (cI, 8, .inl (zf (pq_v T)))), (ax, .inl (cI, 8, .inl (zf (pq_x T))))] H ∧ va_D A [(am, .inr (3, [.int (zi (pq_n T)), .ref aw, .ref av, .ref ax, .int (zi kk), .int (zi ka), .int (zi kb)])), (aw, .inl (cI, 8, .inl (zf (pq_w T)))), (av, .inl (cI, 8, .inl (zf (pq_v T)))), (ax, .inl (cI, 8, .inl (zf (pq_x T))))] ∧ va_S A s.heap H locs ∧ lv_has ls 3 [(0, .ref am), (1, .int (zi q)), (2, .int (zi j))]) (fun n_4 H locs ls hI ih_4 => ?_) _ ⟨0, 0, rfl, (by first | assumption | omega | rfl), rfl, hP, hD, hS, lv_sub hl [2, 1, 0] rfl⟩
  obtain ⟨q, j, hn_4, hj, hq, hP, hD, hS, hl⟩ := hI
  refine lv_iload_n hx hb dX3_countFillings_4 rfl (lv_at hl 2 rfl) ?_
  refine lv_aload_n hx hb dX3_countFillings_5 rfl (lv_at hl 0 rfl) ?_
  have hPc := hP.sub (ws' := [(am, .inr (3, [.int (zi (pq_n T)), .ref aw, .ref av, .ref ax, .int (zi kk), .int (zi ka), .int (zi kb)])), (aw, .inl (cI, 8, .inl (zf (pq_w T)))), (av, .inl (cI, 8, .inl (zf (pq_v T)))), (ax, .inl (cI, 8, .inl (zf (pq_x T))))]) [0, 1, 2, 3] rfl
  have hDc := hD.sub (ws' := [(am, .inr (3, [.int (zi (pq_n T)), .ref aw, .ref av, .ref ax, .int (zi kk), .int (zi ka), .int (zi kb)])), (aw, .inl (cI, 8, .inl (zf (pq_w T)))), (av, .inl (cI, 8, .inl (zf (pq_v T)))), (ax, .inl (cI, 8, .inl (zf (pq_x T))))]) [0, 1, 2, 3] (by decide) rfl
  have hFc := va_free (wc := [(am, .inr (3, [.int (zi (pq_n T)), .ref aw, .ref av, .ref ax, .int (zi kk), .int (zi ka), .int (zi kb)])), (aw, .inl (cI, 8, .inl (zf (pq_w T)))), (av, .inl (cI, 8, .inl (zf (pq_v T)))), (ax, .inl (cI, 8, .inl (zf (pq_x T))))]) hD hS hA [0, 1, 2, 3] rfl
  refine va_calli (va_runV (As := []) (rest := [.int (zi j)]) ⟨hx, hb, hml, hown, hts⟩ (c_X3_countCells l dC dI cI cZ cM cT H.size am aw av ax T kk ka kb ) (cwV 0 hts (goodIn_of _ (by decide +kernel)) rfl rfl rfl (by decide +kernel) ⟨Nat.le_of_ble_eq_true rfl, Nat.le_of_ble_eq_true rfl⟩) ⟨fun a U g mk q => by obtain ⟨q0, q1, qP, qK, qD⟩ := q; exact ⟨q0, q1, qP, va_K.moved (u := U) (U := U.calling g mk a) (Vm.Alike.refl U.vm) qK, qD⟩, va_recv hK hPc (ci := 3) (q0 := 0) rfl rfl, fun U hU hW => ⟨rfl, by rw [hU], by rw [hU]; exact hPc, va_K.moved hW.alike hK, hDc.weaken (fun _ _ _ _ => trivial)⟩⟩ rfl rfl hl.1 rfl (lv_room (Nat.le_of_ble_eq_true rfl)) dX3_countFillings_6 ⟨Nat.le_of_ble_eq_true rfl, Nat.le_of_ble_eq_true rfl⟩) hS (fun q _ h => hFc q h) hFc (fun r_1 u t H1 locs ht hvm hw hB hz1 hk1 hS => ?_)
  obtain ⟨hP1, hK1, hD1⟩ := hB
  rw [ht] at hP1
  obtain ⟨hP, hD⟩ := va_join (wr := []) (w1 := [(am, .inr (3, [.int (zi (pq_n T)), .ref aw, .ref av, .ref ax, .int (zi kk), .int (zi ka), .int (zi kb)])), (aw, .inl (cI, 8, .inl (zf (pq_w T)))), (av, .inl (cI, 8, .inl (zf (pq_v T)))), (ax, .inl (cI, 8, .inl (zf (pq_x T))))]) hP hD [0, 1, 2, 3] [] rfl rfl (by decide) (by decide) hk1 hFc hP1 hD1
  generalize H1 = H at hP hS ⊢
  have hP : va_P (dC, dI) vwCl [(am, .inr (3, [.int (zi (pq_n T)), .ref aw, .ref av, .ref ax, .int (zi kk), .int (zi ka), .int (zi kb)])), (aw, .inl (cI, 8, .inl (zf (pq_w T)))), (av, .inl (cI, 8, .inl (zf (pq_v T)))), (ax, .inl (cI, 8, .inl (zf (pq_x T))))] H := hP
  have hD : va_D A [(am, .inr (3, [.int (zi (pq_n T)), .ref aw, .ref av, .ref ax, .int (zi kk), .int (zi ka), .int (zi kb)])), (aw, .inl (cI, 8, .inl (zf (pq_w T)))), (av, .inl (cI, 8, .inl (zf (pq_v T)))), (ax, .inl (cI, 8, .inl (zf (pq_x T))))] := hD
  refine W.widen (k := 0) (n := 0) (Nat.le_of_ble_eq_true rfl) (Nat.le_of_ble_eq_true rfl) ?_
  obtain rfl : r_1 = zi (2 * pq_n T) := hw
  refine pz_icmp_ge (tgt := 36) hx hb (by omega) dX3_countFillings_9 (by decide) (fun c_2 => ?_) (fun c_2 => ?_)
  · have hn36 := pq_gx_bd hok j.toNat (by omega)
    refine lv_iload_n hx hb dX3_countFillings_36 rfl (lv_at hl 1 rfl) ?_
    refine lv_iconst (v := zi 1) hx hb dX3_countFillings_37 (by decide) ?_
    refine pz_iadd hx hb dX3_countFillings_38 ?_
    refine lv_aload_n hx hb dX3_countFillings_39 rfl (lv_at hl 0 rfl) ?_
    refine va_get (D := (dC, dI)) (ci := 3) (v := .int (zi (pq_n T))) (C := RX3) (T := TX3) (N := 7) hx hb hts hiX3 hown hK hP 0 rfl rfl 0 (by decide) (hts (.fieldLink RX3 9 "Haltingale$Machine" "states" "I") (by decide +kernel)) (fun _ h9 => h9) rfl dX3_countFillings_40 ?_
    refine lv_iconst (v := zi 1) hx hb dX3_countFillings_43 (by decide) ?_
    refine pz_isub hx hb dX3_countFillings_44 ?_
    refine va_mmin hx hb (by rw [hml]; exact hl.1.symm) hown (hts (.methodLink RX3 55 Lib.Math.min.name) (by decide +kernel)) (hts (.static Lib.Math.min.name) (by decide +kernel)) (hts (.initialized "java/lang/Math") (by decide +kernel)) (hts (.code Lib.Math.min.name Lib.Math.min.code 2 (some .int)) (by decide +kernel)) (Nat.le_of_ble_eq_true rfl) (Nat.le_of_ble_eq_true rfl) (Nat.le_of_ble_eq_true rfl) (Nat.le_of_ble_eq_true rfl) dX3_countFillings_45 ?_
    refine pz_top (y := (zi (min (q + 1) ((pq_n T) - 1)))) (zi_min (by omega)) ?_
    refine lv_istore_n (lv' := [(2, .int (zi (min (q + 1) ((pq_n T) - 1)))), (0, .ref am), (1, .int (zi q))]) hx hb dX3_countFillings_48 rfl hl (by decide) rfl (fun ls hl => ?_)
    refine lv_iconst (v := zi 1) hx hb dX3_countFillings_49 (by decide) ?_
    refine lv_iconst (v := zi 4) hx hb dX3_countFillings_50 (by decide) ?_
    refine lv_iload_n hx hb dX3_countFillings_51 rfl (lv_at hl 0 rfl) ?_
    refine lv_iconst (v := zi 1) hx hb dX3_countFillings_52 (by decide) ?_
    refine pz_iadd hx hb dX3_countFillings_53 ?_
    refine pz_imul hx hb dX3_countFillings_54 ?_
    refine pz_iadd hx hb dX3_countFillings_55 ?_
    refine W.widen (k := 0) (n := 0) (Nat.le_of_ble_eq_true rfl) (Nat.le_of_ble_eq_true rfl) ?_
    exact W.iret (v := (zi (1 + (4 * ((min (q + 1) ((pq_n T) - 1)) + 1))))) hx hb hr (fun t ht hW => ⟨⟨(zi (1 + (4 * ((min (q + 1) ((pq_n T) - 1)) + 1)))), (), rfl, congrArg zi (by unfold pq_wy; rw [hq, show j = 2 * pq_n T by omega]), ⟨by rw [ht]; exact hP, va_K.moved hW.alike hK, hD⟩⟩, hS.F ht⟩) hS.2.2 dX3_countFillings_56
  · refine lv_aload_n hx hb dX3_countFillings_12 rfl (lv_at hl 0 rfl) ?_
    refine lv_iload_n hx hb dX3_countFillings_13 rfl (lv_at hl 2 rfl) ?_
    have hPc := hP.sub (ws' := [(am, .inr (3, [.int (zi (pq_n T)), .ref aw, .ref av, .ref ax, .int (zi kk), .int (zi ka), .int (zi kb)])), (aw, .inl (cI, 8, .inl (zf (pq_w T)))), (av, .inl (cI, 8, .inl (zf (pq_v T)))), (ax, .inl (cI, 8, .inl (zf (pq_x T))))]) [0, 1, 2, 3] rfl
    have hDc := hD.sub (ws' := [(am, .inr (3, [.int (zi (pq_n T)), .ref aw, .ref av, .ref ax, .int (zi kk), .int (zi ka), .int (zi kb)])), (aw, .inl (cI, 8, .inl (zf (pq_w T)))), (av, .inl (cI, 8, .inl (zf (pq_v T)))), (ax, .inl (cI, 8, .inl (zf (pq_x T))))]) [0, 1, 2, 3] (by decide) rfl
    have hFc := va_free (wc := [(am, .inr (3, [.int (zi (pq_n T)), .ref aw, .ref av, .ref ax, .int (zi kk), .int (zi ka), .int (zi kb)])), (aw, .inl (cI, 8, .inl (zf (pq_w T)))), (av, .inl (cI, 8, .inl (zf (pq_v T)))), (ax, .inl (cI, 8, .inl (zf (pq_x T))))]) hD hS hA [0, 1, 2, 3] rfl
    refine va_calli (va_runV (As := [.int (zi j)]) (rest := []) ⟨hx, hb, hml, hown, hts⟩ (c_X3_isEnd l dC dI cI cZ cM cT H.size am aw av ax T kk ka kb j (by first | assumption | omega | rfl) (by first | assumption | omega | rfl)) (cwV 1 hts (goodIn_of _ (by decide +kernel)) rfl rfl rfl (by decide +kernel) ⟨Nat.le_of_ble_eq_true rfl, Nat.le_of_ble_eq_true rfl⟩) ⟨fun a U g mk q => by obtain ⟨q0, q1, qP, qK, qD⟩ := q; exact ⟨q0, q1, qP, va_K.moved (u := U) (U := U.calling g mk a) (Vm.Alike.refl U.vm) qK, qD⟩, va_recv hK hPc (ci := 3) (q0 := 0) rfl rfl, fun U hU hW => ⟨rfl, by rw [hU], by rw [hU]; exact hPc, va_K.moved hW.alike hK, hDc.weaken (fun _ _ _ _ => trivial)⟩⟩ rfl rfl hl.1 rfl (lv_room (Nat.le_of_ble_eq_true rfl)) dX3_countFillings_14 ⟨Nat.le_of_ble_eq_true rfl, Nat.le_of_ble_eq_true rfl⟩) hS (fun q _ h => hFc q h) hFc (fun r_3 u t H1 locs ht hvm hw hB hz1 hk1 hS => ?_)
    obtain ⟨hP1, hK1, hD1⟩ := hB
    rw [ht] at hP1
    obtain ⟨hP, hD⟩ := va_join (wr := []) (w1 := [(am, .inr (3, [.int (zi (pq_n T)), .ref aw, .ref av, .ref ax, .int (zi kk), .int (zi ka), .int (zi kb)])), (aw, .inl (cI, 8, .inl (zf (pq_w T)))), (av, .inl (cI, 8, .inl (zf (pq_v T)))), (ax, .inl (cI, 8, .inl (zf (pq_x T))))]) hP hD [0, 1, 2, 3] [] rfl rfl (by decide) (by decide) hk1 hFc hP1 hD1
    generalize H1 = H at hP hS ⊢
    have hP : va_P (dC, dI) vwCl [(am, .inr (3, [.int (zi (pq_n T)), .ref aw, .ref av, .ref ax, .int (zi kk), .int (zi ka), .int (zi kb)])), (aw, .inl (cI, 8, .inl (zf (pq_w T)))), (av, .inl (cI, 8, .inl (zf (pq_v T)))), (ax, .inl (cI, 8, .inl (zf (pq_x T))))] H := hP
    have hD : va_D A [(am, .inr (3, [.int (zi (pq_n T)), .ref aw, .ref av, .ref ax, .int (zi kk), .int (zi ka), .int (zi kb)])), (aw, .inl (cI, 8, .inl (zf (pq_w T)))), (av, .inl (cI, 8, .inl (zf (pq_v T)))), (ax, .inl (cI, 8, .inl (zf (pq_x T))))] := hD
    refine W.widen (k := 0) (n := 0) (Nat.le_of_ble_eq_true rfl) (Nat.le_of_ble_eq_true rfl) ?_
    obtain rfl : r_3 = zi (pb (pq_F T j)) := hw
    refine pz_ifb_ne (tgt := 30) hx hb dX3_countFillings_17 (by decide) (fun c_4 => ?_) (fun c_4 => ?_)
    · refine pz_iinc (lv' := [(2, .int (zi (j + 1))), (0, .ref am), (1, .int (zi q))]) hx hb dX3_countFillings_30 hl (k := 2) rfl (by decide) rfl (fun ls hl => ?_)
      refine lv_goto (tgt := 4) hx hb dX3_countFillings_33 (by decide) ?_
      exact ih_4 _ _ _ _ ⟨q, j + 1, rfl, (by first | assumption | omega | rfl), by rw [hq, pq_gx_t hj.1 c_4], hP, hD, hS, lv_sub hl [1, 2, 0] rfl⟩ (by omega)
    · refine lv_iload_n hx hb dX3_countFillings_20 rfl (lv_at hl 1 rfl) ?_
      refine lv_aload_n hx hb dX3_countFillings_21 rfl (lv_at hl 0 rfl) ?_
      refine lv_iload_n hx hb dX3_countFillings_22 rfl (lv_at hl 2 rfl) ?_
      have hPc := hP.sub (ws' := [(am, .inr (3, [.int (zi (pq_n T)), .ref aw, .ref av, .ref ax, .int (zi kk), .int (zi ka), .int (zi kb)])), (aw, .inl (cI, 8, .inl (zf (pq_w T)))), (av, .inl (cI, 8, .inl (zf (pq_v T)))), (ax, .inl (cI, 8, .inl (zf (pq_x T))))]) [0, 1, 2, 3] rfl
      have hDc := hD.sub (ws' := [(am, .inr (3, [.int (zi (pq_n T)), .ref aw, .ref av, .ref ax, .int (zi kk), .int (zi ka), .int (zi kb)])), (aw, .inl (cI, 8, .inl (zf (pq_w T)))), (av, .inl (cI, 8, .inl (zf (pq_v T)))), (ax, .inl (cI, 8, .inl (zf (pq_x T))))]) [0, 1, 2, 3] (by decide) rfl
      have hFc := va_free (wc := [(am, .inr (3, [.int (zi (pq_n T)), .ref aw, .ref av, .ref ax, .int (zi kk), .int (zi ka), .int (zi kb)])), (aw, .inl (cI, 8, .inl (zf (pq_w T)))), (av, .inl (cI, 8, .inl (zf (pq_v T)))), (ax, .inl (cI, 8, .inl (zf (pq_x T))))]) hD hS hA [0, 1, 2, 3] rfl
      refine va_calli (va_runV (As := [.int (zi j)]) (rest := [.int (zi q)]) ⟨hx, hb, hml, hown, hts⟩ (c_X3_nextOf l dC dI cI cZ cM cT H.size am aw av ax T kk ka kb j (by first | assumption | omega | rfl)) (cwV 1 hts (goodIn_of _ (by decide +kernel)) rfl rfl rfl (by decide +kernel) ⟨Nat.le_of_ble_eq_true rfl, Nat.le_of_ble_eq_true rfl⟩) ⟨fun a U g mk q => by obtain ⟨q0, q1, qP, qK, qD⟩ := q; exact ⟨q0, q1, qP, va_K.moved (u := U) (U := U.calling g mk a) (Vm.Alike.refl U.vm) qK, qD⟩, va_recv hK hPc (ci := 3) (q0 := 0) rfl rfl, fun U hU hW => ⟨rfl, by rw [hU], by rw [hU]; exact hPc, va_K.moved hW.alike hK, hDc.weaken (fun _ _ _ _ => trivial)⟩⟩ rfl rfl hl.1 rfl (lv_room (Nat.le_of_ble_eq_true rfl)) dX3_countFillings_23 ⟨Nat.le_of_ble_eq_true rfl, Nat.le_of_ble_eq_true rfl⟩) hS (fun q _ h => hFc q h) hFc (fun r_5 u t H1 locs ht hvm hw hB hz1 hk1 hS => ?_)
      obtain ⟨hP1, hK1, hD1⟩ := hB
      rw [ht] at hP1
      obtain ⟨hP, hD⟩ := va_join (wr := []) (w1 := [(am, .inr (3, [.int (zi (pq_n T)), .ref aw, .ref av, .ref ax, .int (zi kk), .int (zi ka), .int (zi kb)])), (aw, .inl (cI, 8, .inl (zf (pq_w T)))), (av, .inl (cI, 8, .inl (zf (pq_v T)))), (ax, .inl (cI, 8, .inl (zf (pq_x T))))]) hP hD [0, 1, 2, 3] [] rfl rfl (by decide) (by decide) hk1 hFc hP1 hD1
      generalize H1 = H at hP hS ⊢
      have hP : va_P (dC, dI) vwCl [(am, .inr (3, [.int (zi (pq_n T)), .ref aw, .ref av, .ref ax, .int (zi kk), .int (zi ka), .int (zi kb)])), (aw, .inl (cI, 8, .inl (zf (pq_w T)))), (av, .inl (cI, 8, .inl (zf (pq_v T)))), (ax, .inl (cI, 8, .inl (zf (pq_x T))))] H := hP
      have hD : va_D A [(am, .inr (3, [.int (zi (pq_n T)), .ref aw, .ref av, .ref ax, .int (zi kk), .int (zi ka), .int (zi kb)])), (aw, .inl (cI, 8, .inl (zf (pq_w T)))), (av, .inl (cI, 8, .inl (zf (pq_v T)))), (ax, .inl (cI, 8, .inl (zf (pq_x T))))] := hD
      refine W.widen (k := 0) (n := 0) (Nat.le_of_ble_eq_true rfl) (Nat.le_of_ble_eq_true rfl) ?_
      obtain rfl : r_5 = zi (pq_xo T j) := hw
      refine pz_top (y := zi (pq_x T j.toNat)) (congrArg zi (pq_xo_in (pq_nF hok c_4).1.1 (pq_nF hok c_4).1.2)) ?_
      have hn26 := pq_nF hok c_4
      have hn27 := pq_gx_bd hok j.toNat (by omega)
      refine va_mmax hx hb (by rw [hml]; exact hl.1.symm) hown (hts (.methodLink RX3 49 Lib.Math.max.name) (by decide +kernel)) (hts (.static Lib.Math.max.name) (by decide +kernel)) (hts (.initialized "java/lang/Math") (by decide +kernel)) (hts (.code Lib.Math.max.name Lib.Math.max.code 2 (some .int)) (by decide +kernel)) (Nat.le_of_ble_eq_true rfl) (Nat.le_of_ble_eq_true rfl) (Nat.le_of_ble_eq_true rfl) (Nat.le_of_ble_eq_true rfl) dX3_countFillings_26 ?_
      refine pz_top (y := (zi (max q (pq_x T j.toNat)))) (zi_max (by omega)) ?_
      refine lv_istore_n (lv' := [(1, .int (zi (max q (pq_x T j.toNat)))), (0, .ref am), (2, .int (zi j))]) hx hb dX3_countFillings_29 rfl hl (by decide) rfl (fun ls hl => ?_)
      refine pz_iinc (lv' := [(2, .int (zi (j + 1))), (1, .int (zi (max q (pq_x T j.toNat)))), (0, .ref am)]) hx hb dX3_countFillings_30 hl (k := 2) rfl (by decide) rfl (fun ls hl => ?_)
      refine lv_goto (tgt := 4) hx hb dX3_countFillings_33 (by decide) ?_
      exact ih_4 _ _ _ _ ⟨max q (pq_x T j.toNat), j + 1, rfl, (by first | assumption | omega | rfl), by rw [hq, pq_gx_f hj.1 c_4], hP, hD, hS, lv_sub hl [2, 1, 0] rfl⟩ (by omega)

def zs_c_X3_fillByWay : List Cond := .code yX3_fillByWay cX3_fillByWay 4 none :: (([.code yX3_fill cX3_fill 5 none, .fieldLink RX3 15 "Haltingale$Machine" "writes" "[I", .fieldLink RX3 19 "Haltingale$Machine" "moves" "[I", .fieldLink RX3 22 "Haltingale$Machine" "nexts" "[I", .methodLink RX3 58 yX3_fill, .instanceMethod yX3_fill, .initialized RX3, .selects RX3 yX3_fill yX3_fill, .fieldLink RX3 9 "Haltingale$Machine" "states" "I"] : List Cond) ++ wsX30)
set_option maxHeartbeats 4000000 in
set_option maxRecDepth 100000 in
theorem c_X3_fillByWay (l : Launch) (dC : Nat → ClassId) (dI : Nat → Nat → Nat) (cI cZ cM cT : ClassId) (sz : Nat) (am : Nat) (aw : Nat) (av : Nat) (ax : Nat) (T : pq_T) (kk : Int) (ka : Int) (kb : Int) (i : Int) (y : Int) (hok : pq_ok T) (hi : 0 ≤ i ∧ i < 2 * pq_n T) (hy : 0 ≤ y ∧ y ≤ 4 * pq_n T) : Met l yX3_fillByWay zs_c_X3_fillByWay ({ frames := 1, cells := 0, slots := 0, locals := 24 }) (va_Pc [.ref am, .int (zi i), .int (zi y)] (fun U => U.heap.size = sz ∧ va_P (dC, dI) vwCl [(am, .inr (3, [.int (zi (pq_n T)), .ref aw, .ref av, .ref ax, .int (zi kk), .int (zi ka), .int (zi kb)])), (aw, .inl (cI, 8, .inl (zf (pq_w T)))), (av, .inl (cI, 8, .inl (zf (pq_v T)))), (ax, .inl (cI, 8, .inl (zf (pq_x T))))] U.heap ∧ va_K (dC, dI) vwCl (zT4 cI cZ cM cT) U ∧ va_D (fun _ => True) [(am, .inr (3, [.int (zi (pq_n T)), .ref aw, .ref av, .ref ax, .int (zi kk), .int (zi ka), .int (zi kb)])), (aw, .inl (cI, 8, .inl (zf (pq_w T)))), (av, .inl (cI, 8, .inl (zf (pq_v T)))), (ax, .inl (cI, 8, .inl (zf (pq_x T))))])) (va_Qv (fun _ : Unit => True) (fun _ t => ∃ (T1 : pq_T), (pq_ok T1 ∧ pq_n T1 = pq_n T) ∧ va_P (dC, dI) vwCl [(am, .inr (3, [.int (zi (pq_n T1)), .ref aw, .ref av, .ref ax, .int (zi kk), .int (zi ka), .int (zi kb)])), (aw, .inl (cI, 8, .inl (zf (pq_w T1)))), (av, .inl (cI, 8, .inl (zf (pq_v T1)))), (ax, .inl (cI, 8, .inl (zf (pq_x T1))))] t.heap ∧ va_K (dC, dI) vwCl (zT4 cI cZ cM cT) t ∧ va_D (va_A [(am, .inr (3, [.int (zi (pq_n T)), .ref aw, .ref av, .ref ax, .int (zi kk), .int (zi ka), .int (zi kb)])), (aw, .inl (cI, 8, .inl (zf (pq_w T)))), (av, .inl (cI, 8, .inl (zf (pq_v T)))), (ax, .inl (cI, 8, .inl (zf (pq_x T))))] sz) [(am, .inr (3, [.int (zi (pq_n T1)), .ref aw, .ref av, .ref ax, .int (zi kk), .int (zi ka), .int (zi kb)])), (aw, .inl (cI, 8, .inl (zf (pq_w T1)))), (av, .inl (cI, 8, .inl (zf (pq_v T1)))), (ax, .inl (cI, 8, .inl (zf (pq_x T1))))]) (va_A [(am, .inr (3, [.int (zi (pq_n T)), .ref aw, .ref av, .ref ax, .int (zi kk), .int (zi ka), .int (zi kb)])), (aw, .inl (cI, 8, .inl (zf (pq_w T)))), (av, .inl (cI, 8, .inl (zf (pq_v T)))), (ax, .inl (cI, 8, .inl (zf (pq_x T))))] sz)) 0 0 (va_A [(am, .inr (3, [.int (zi (pq_n T)), .ref aw, .ref av, .ref ax, .int (zi kk), .int (zi ka), .int (zi kb)])), (aw, .inl (cI, 8, .inl (zf (pq_w T)))), (av, .inl (cI, 8, .inl (zf (pq_v T)))), (ax, .inl (cI, 8, .inl (zf (pq_x T))))] sz) := by
  refine Met.ofW (cc := cX3_fillByWay) (maxL := 4) (ret := none) (by decide) rfl ?_
  intro p e s m args below meth c s₁ B hml hv
  obtain ⟨rfl, hsz, hP, hK, hD0⟩ := hv
  have hx := B.exec
  have hb := B.bytes
  have hr := B.returns
  have hts := atoms_spec (ws := zs_c_X3_fillByWay) B.pre
  have hown : s.vm.findClass RX3 = some m.cls := findClass_of_methodNamed B.named
  have hlocks := B.notSynchronized
  have hiX3 : ∀ w ∈ wsX30, w ∈ zs_c_X3_fillByWay := by decide +kernel
  subst hsz
  have hD := hD0.self (sz := s.heap.size)
  generalize hAe : va_A [(am, .inr (3, [.int (zi (pq_n T)), .ref aw, .ref av, .ref ax, .int (zi kk), .int (zi ka), .int (zi kb)])), (aw, .inl (cI, 8, .inl (zf (pq_w T)))), (av, .inl (cI, 8, .inl (zf (pq_v T)))), (ax, .inl (cI, 8, .inl (zf (pq_x T))))] s.heap.size = A at hD ⊢
  have hA : ∀ q : Nat, s.heap.size ≤ q → A q := fun q h => by rw [← hAe]; exact Or.inr h
  have hS : va_S A s.heap s.heap [] := va_S.rf
  have hl := lv_entry ([.ref am, .int (zi i), .int (zi y)]) (n := 4) (Nat.le_of_ble_eq_true rfl)
  rw [lg_entry_eq]
  generalize (lg_sl ([.ref am, .int (zi i), .int (zi y)]) ++ List.replicate (4 - (lg_sl ([.ref am, .int (zi i), .int (zi y)])).length) Slot.unset).toArray = ls at hl ⊢
  have hl : lv_has ls 4 [(0, .ref am), (1, .int (zi i)), (2, .int (zi y))] := hl
  have hn := hok.1
  refine lv_iload_n hx hb dX3_fillByWay_0 rfl (lv_at hl 2 rfl) ?_
  refine pz_if_gt (tgt := 16) hx hb (by omega) dX3_fillByWay_1 (by decide) (fun c_1 => ?_) (fun c_1 => ?_)
  · refine lv_iload_n hx hb dX3_fillByWay_16 rfl (lv_at hl 2 rfl) ?_
    refine lv_iconst (v := zi 1) hx hb dX3_fillByWay_17 (by decide) ?_
    refine pz_isub hx hb dX3_fillByWay_18 ?_
    refine lv_iconst (v := zi 4) hx hb dX3_fillByWay_19 (by decide) ?_
    refine pz_irem hx hb (by omega) dX3_fillByWay_20 ?_
    refine lv_istore_n (lv' := [(3, .int (zi ((y - 1) % 4))), (0, .ref am), (1, .int (zi i)), (2, .int (zi y))]) hx hb dX3_fillByWay_21 rfl hl (by decide) rfl (fun ls hl => ?_)
    refine lv_aload_n hx hb dX3_fillByWay_22 rfl (lv_at hl 1 rfl) ?_
    refine lv_iload_n hx hb dX3_fillByWay_23 rfl (lv_at hl 2 rfl) ?_
    refine lv_iload_n hx hb dX3_fillByWay_24 rfl (lv_at hl 0 rfl) ?_
    refine lv_iconst (v := zi 2) hx hb dX3_fillByWay_25 (by decide) ?_
    refine pz_irem hx hb (by omega) dX3_fillByWay_26 ?_
    refine pz_if_ne (tgt := 34) hx hb (by omega) dX3_fillByWay_27 (by decide) (fun c_2 => ?_) (fun c_2 => ?_)
    · refine lv_iconst (v := zi 0) hx hb dX3_fillByWay_34 (by decide) ?_
      refine lv_iload_n hx hb dX3_fillByWay_35 rfl (lv_at hl 0 rfl) ?_
      refine lv_iconst (v := zi 2) hx hb dX3_fillByWay_36 (by decide) ?_
      refine pz_icmp_ge (tgt := 44) hx hb (by omega) dX3_fillByWay_37 (by decide) (fun c_3 => ?_) (fun c_3 => ?_)
      · refine lv_iconst (v := zi (-1)) hx hb dX3_fillByWay_44 (by decide) ?_
        refine lv_iload_n hx hb dX3_fillByWay_45 rfl (lv_at hl 3 rfl) ?_
        refine lv_iconst (v := zi 1) hx hb dX3_fillByWay_46 (by decide) ?_
        refine pz_isub hx hb dX3_fillByWay_47 ?_
        refine lv_iconst (v := zi 4) hx hb dX3_fillByWay_48 (by decide) ?_
        refine pz_idiv hx hb (by omega) dX3_fillByWay_49 ?_
        have hPc := hP.sub (ws' := [(am, .inr (3, [.int (zi (pq_n T)), .ref aw, .ref av, .ref ax, .int (zi kk), .int (zi ka), .int (zi kb)])), (aw, .inl (cI, 8, .inl (zf (pq_w T)))), (av, .inl (cI, 8, .inl (zf (pq_v T)))), (ax, .inl (cI, 8, .inl (zf (pq_x T))))]) [0, 1, 2, 3] rfl
        have hDc := hD.sub (ws' := [(am, .inr (3, [.int (zi (pq_n T)), .ref aw, .ref av, .ref ax, .int (zi kk), .int (zi ka), .int (zi kb)])), (aw, .inl (cI, 8, .inl (zf (pq_w T)))), (av, .inl (cI, 8, .inl (zf (pq_v T)))), (ax, .inl (cI, 8, .inl (zf (pq_x T))))]) [0, 1, 2, 3] (by decide) rfl
        have hFc := va_free (wc := [(am, .inr (3, [.int (zi (pq_n T)), .ref aw, .ref av, .ref ax, .int (zi kk), .int (zi ka), .int (zi kb)])), (aw, .inl (cI, 8, .inl (zf (pq_w T)))), (av, .inl (cI, 8, .inl (zf (pq_v T)))), (ax, .inl (cI, 8, .inl (zf (pq_x T))))]) hD hS hA [0, 1, 2, 3] rfl
        refine va_callv (va_runV (As := [.int (zi i), .int (zi 0), .int (zi (-1)), .int (zi ((y - 1) / 4))]) (rest := []) ⟨hx, hb, hml, hown, hts⟩ (c_X3_fill l dC dI cI cZ cM cT s.heap.size am aw av ax T kk ka kb i 0 (-1) ((y - 1) / 4) (by first | assumption | omega | rfl)) (cwV 4 hts (goodIn_of _ (by decide +kernel)) rfl rfl rfl (by decide +kernel) ⟨Nat.le_of_ble_eq_true rfl, Nat.le_of_ble_eq_true rfl⟩) ⟨fun a U g mk q => by obtain ⟨q0, q1, qP, qK, qD⟩ := q; exact ⟨q0, q1, qP, va_K.moved (u := U) (U := U.calling g mk a) (Vm.Alike.refl U.vm) qK, qD⟩, va_recv hK hPc (ci := 3) (q0 := 0) rfl rfl, fun U hU hW => ⟨rfl, by rw [hU], by rw [hU]; exact hPc, va_K.moved hW.alike hK, hDc.weaken (fun _ _ _ _ => trivial)⟩⟩ rfl rfl hl.1 rfl (lv_room (Nat.le_of_ble_eq_true rfl)) dX3_fillByWay_50 ⟨Nat.le_of_ble_eq_true rfl, Nat.le_of_ble_eq_true rfl⟩) hS (fun q _ h => hFc q h) hFc (fun u t H1 locs ht hvm hw hB hz1 hk1 hS => ?_)
        obtain ⟨hP1, hK1, hD1⟩ := hB
        rw [ht] at hP1
        obtain ⟨hP, hD⟩ := va_join (wr := []) (w1 := [(am, .inr (3, [.int (zi (pq_n (pq_fl T i.toNat (0 : Int) (-1 : Int) ((y - 1) / 4)))), .ref aw, .ref av, .ref ax, .int (zi kk), .int (zi ka), .int (zi kb)])), (aw, .inl (cI, 8, .inl (zf (pq_w (pq_fl T i.toNat (0 : Int) (-1 : Int) ((y - 1) / 4)))))), (av, .inl (cI, 8, .inl (zf (pq_v (pq_fl T i.toNat (0 : Int) (-1 : Int) ((y - 1) / 4)))))), (ax, .inl (cI, 8, .inl (zf (pq_x (pq_fl T i.toNat (0 : Int) (-1 : Int) ((y - 1) / 4))))))]) hP hD [0, 1, 2, 3] [] rfl rfl (by decide) (by decide) hk1 hFc hP1 hD1
        generalize H1 = H at hP hS ⊢
        have hP : va_P (dC, dI) vwCl [(am, .inr (3, [.int (zi (pq_n (pq_fl T i.toNat (0 : Int) (-1 : Int) ((y - 1) / 4)))), .ref aw, .ref av, .ref ax, .int (zi kk), .int (zi ka), .int (zi kb)])), (aw, .inl (cI, 8, .inl (zf (pq_w (pq_fl T i.toNat (0 : Int) (-1 : Int) ((y - 1) / 4)))))), (av, .inl (cI, 8, .inl (zf (pq_v (pq_fl T i.toNat (0 : Int) (-1 : Int) ((y - 1) / 4)))))), (ax, .inl (cI, 8, .inl (zf (pq_x (pq_fl T i.toNat (0 : Int) (-1 : Int) ((y - 1) / 4))))))] H := hP
        have hD : va_D A [(am, .inr (3, [.int (zi (pq_n (pq_fl T i.toNat (0 : Int) (-1 : Int) ((y - 1) / 4)))), .ref aw, .ref av, .ref ax, .int (zi kk), .int (zi ka), .int (zi kb)])), (aw, .inl (cI, 8, .inl (zf (pq_w (pq_fl T i.toNat (0 : Int) (-1 : Int) ((y - 1) / 4)))))), (av, .inl (cI, 8, .inl (zf (pq_v (pq_fl T i.toNat (0 : Int) (-1 : Int) ((y - 1) / 4)))))), (ax, .inl (cI, 8, .inl (zf (pq_x (pq_fl T i.toNat (0 : Int) (-1 : Int) ((y - 1) / 4))))))] := hD
        refine W.widen (k := 0) (n := 0) (Nat.le_of_ble_eq_true rfl) (Nat.le_of_ble_eq_true rfl) ?_
        refine W.widen (k := 0) (n := 0) (Nat.le_of_ble_eq_true rfl) (Nat.le_of_ble_eq_true rfl) ?_
        exact W.vret hx hb hr (fun t ht hW => ⟨⟨(), rfl, trivial, ⟨(pq_fl T i.toNat (0 : Int) (-1 : Int) ((y - 1) / 4)), ⟨pq_ok_fl hok (by omega) (by omega) (by omega) (by omega), rfl⟩, by rw [ht]; exact hP, va_K.moved hW.alike hK, hD⟩⟩, hS.F ht⟩) hS.2.2 dX3_fillByWay_53
      · refine lv_iconst (v := zi 1) hx hb dX3_fillByWay_40 (by decide) ?_
        refine lv_goto (tgt := 45) hx hb dX3_fillByWay_41 (by decide) ?_
        refine lv_iload_n hx hb dX3_fillByWay_45 rfl (lv_at hl 3 rfl) ?_
        refine lv_iconst (v := zi 1) hx hb dX3_fillByWay_46 (by decide) ?_
        refine pz_isub hx hb dX3_fillByWay_47 ?_
        refine lv_iconst (v := zi 4) hx hb dX3_fillByWay_48 (by decide) ?_
        refine pz_idiv hx hb (by omega) dX3_fillByWay_49 ?_
        have hPc := hP.sub (ws' := [(am, .inr (3, [.int (zi (pq_n T)), .ref aw, .ref av, .ref ax, .int (zi kk), .int (zi ka), .int (zi kb)])), (aw, .inl (cI, 8, .inl (zf (pq_w T)))), (av, .inl (cI, 8, .inl (zf (pq_v T)))), (ax, .inl (cI, 8, .inl (zf (pq_x T))))]) [0, 1, 2, 3] rfl
        have hDc := hD.sub (ws' := [(am, .inr (3, [.int (zi (pq_n T)), .ref aw, .ref av, .ref ax, .int (zi kk), .int (zi ka), .int (zi kb)])), (aw, .inl (cI, 8, .inl (zf (pq_w T)))), (av, .inl (cI, 8, .inl (zf (pq_v T)))), (ax, .inl (cI, 8, .inl (zf (pq_x T))))]) [0, 1, 2, 3] (by decide) rfl
        have hFc := va_free (wc := [(am, .inr (3, [.int (zi (pq_n T)), .ref aw, .ref av, .ref ax, .int (zi kk), .int (zi ka), .int (zi kb)])), (aw, .inl (cI, 8, .inl (zf (pq_w T)))), (av, .inl (cI, 8, .inl (zf (pq_v T)))), (ax, .inl (cI, 8, .inl (zf (pq_x T))))]) hD hS hA [0, 1, 2, 3] rfl
        refine va_callv (va_runV (As := [.int (zi i), .int (zi 0), .int (zi 1), .int (zi ((y - 1) / 4))]) (rest := []) ⟨hx, hb, hml, hown, hts⟩ (c_X3_fill l dC dI cI cZ cM cT s.heap.size am aw av ax T kk ka kb i 0 1 ((y - 1) / 4) (by first | assumption | omega | rfl)) (cwV 4 hts (goodIn_of _ (by decide +kernel)) rfl rfl rfl (by decide +kernel) ⟨Nat.le_of_ble_eq_true rfl, Nat.le_of_ble_eq_true rfl⟩) ⟨fun a U g mk q => by obtain ⟨q0, q1, qP, qK, qD⟩ := q; exact ⟨q0, q1, qP, va_K.moved (u := U) (U := U.calling g mk a) (Vm.Alike.refl U.vm) qK, qD⟩, va_recv hK hPc (ci := 3) (q0 := 0) rfl rfl, fun U hU hW => ⟨rfl, by rw [hU], by rw [hU]; exact hPc, va_K.moved hW.alike hK, hDc.weaken (fun _ _ _ _ => trivial)⟩⟩ rfl rfl hl.1 rfl (lv_room (Nat.le_of_ble_eq_true rfl)) dX3_fillByWay_50 ⟨Nat.le_of_ble_eq_true rfl, Nat.le_of_ble_eq_true rfl⟩) hS (fun q _ h => hFc q h) hFc (fun u t H1 locs ht hvm hw hB hz1 hk1 hS => ?_)
        obtain ⟨hP1, hK1, hD1⟩ := hB
        rw [ht] at hP1
        obtain ⟨hP, hD⟩ := va_join (wr := []) (w1 := [(am, .inr (3, [.int (zi (pq_n (pq_fl T i.toNat (0 : Int) (1 : Int) ((y - 1) / 4)))), .ref aw, .ref av, .ref ax, .int (zi kk), .int (zi ka), .int (zi kb)])), (aw, .inl (cI, 8, .inl (zf (pq_w (pq_fl T i.toNat (0 : Int) (1 : Int) ((y - 1) / 4)))))), (av, .inl (cI, 8, .inl (zf (pq_v (pq_fl T i.toNat (0 : Int) (1 : Int) ((y - 1) / 4)))))), (ax, .inl (cI, 8, .inl (zf (pq_x (pq_fl T i.toNat (0 : Int) (1 : Int) ((y - 1) / 4))))))]) hP hD [0, 1, 2, 3] [] rfl rfl (by decide) (by decide) hk1 hFc hP1 hD1
        generalize H1 = H at hP hS ⊢
        have hP : va_P (dC, dI) vwCl [(am, .inr (3, [.int (zi (pq_n (pq_fl T i.toNat (0 : Int) (1 : Int) ((y - 1) / 4)))), .ref aw, .ref av, .ref ax, .int (zi kk), .int (zi ka), .int (zi kb)])), (aw, .inl (cI, 8, .inl (zf (pq_w (pq_fl T i.toNat (0 : Int) (1 : Int) ((y - 1) / 4)))))), (av, .inl (cI, 8, .inl (zf (pq_v (pq_fl T i.toNat (0 : Int) (1 : Int) ((y - 1) / 4)))))), (ax, .inl (cI, 8, .inl (zf (pq_x (pq_fl T i.toNat (0 : Int) (1 : Int) ((y - 1) / 4))))))] H := hP
        have hD : va_D A [(am, .inr (3, [.int (zi (pq_n (pq_fl T i.toNat (0 : Int) (1 : Int) ((y - 1) / 4)))), .ref aw, .ref av, .ref ax, .int (zi kk), .int (zi ka), .int (zi kb)])), (aw, .inl (cI, 8, .inl (zf (pq_w (pq_fl T i.toNat (0 : Int) (1 : Int) ((y - 1) / 4)))))), (av, .inl (cI, 8, .inl (zf (pq_v (pq_fl T i.toNat (0 : Int) (1 : Int) ((y - 1) / 4)))))), (ax, .inl (cI, 8, .inl (zf (pq_x (pq_fl T i.toNat (0 : Int) (1 : Int) ((y - 1) / 4))))))] := hD
        refine W.widen (k := 0) (n := 0) (Nat.le_of_ble_eq_true rfl) (Nat.le_of_ble_eq_true rfl) ?_
        refine W.widen (k := 0) (n := 0) (Nat.le_of_ble_eq_true rfl) (Nat.le_of_ble_eq_true rfl) ?_
        exact W.vret hx hb hr (fun t ht hW => ⟨⟨(), rfl, trivial, ⟨(pq_fl T i.toNat (0 : Int) (1 : Int) ((y - 1) / 4)), ⟨pq_ok_fl hok (by omega) (by omega) (by omega) (by omega), rfl⟩, by rw [ht]; exact hP, va_K.moved hW.alike hK, hD⟩⟩, hS.F ht⟩) hS.2.2 dX3_fillByWay_53
    · refine lv_iconst (v := zi 1) hx hb dX3_fillByWay_30 (by decide) ?_
      refine lv_goto (tgt := 35) hx hb dX3_fillByWay_31 (by decide) ?_
      refine lv_iload_n hx hb dX3_fillByWay_35 rfl (lv_at hl 0 rfl) ?_
      refine lv_iconst (v := zi 2) hx hb dX3_fillByWay_36 (by decide) ?_
      refine pz_icmp_ge (tgt := 44) hx hb (by omega) dX3_fillByWay_37 (by decide) (fun c_6 => ?_) (fun c_6 => ?_)
      · refine lv_iconst (v := zi (-1)) hx hb dX3_fillByWay_44 (by decide) ?_
        refine lv_iload_n hx hb dX3_fillByWay_45 rfl (lv_at hl 3 rfl) ?_
        refine lv_iconst (v := zi 1) hx hb dX3_fillByWay_46 (by decide) ?_
        refine pz_isub hx hb dX3_fillByWay_47 ?_
        refine lv_iconst (v := zi 4) hx hb dX3_fillByWay_48 (by decide) ?_
        refine pz_idiv hx hb (by omega) dX3_fillByWay_49 ?_
        have hPc := hP.sub (ws' := [(am, .inr (3, [.int (zi (pq_n T)), .ref aw, .ref av, .ref ax, .int (zi kk), .int (zi ka), .int (zi kb)])), (aw, .inl (cI, 8, .inl (zf (pq_w T)))), (av, .inl (cI, 8, .inl (zf (pq_v T)))), (ax, .inl (cI, 8, .inl (zf (pq_x T))))]) [0, 1, 2, 3] rfl
        have hDc := hD.sub (ws' := [(am, .inr (3, [.int (zi (pq_n T)), .ref aw, .ref av, .ref ax, .int (zi kk), .int (zi ka), .int (zi kb)])), (aw, .inl (cI, 8, .inl (zf (pq_w T)))), (av, .inl (cI, 8, .inl (zf (pq_v T)))), (ax, .inl (cI, 8, .inl (zf (pq_x T))))]) [0, 1, 2, 3] (by decide) rfl
        have hFc := va_free (wc := [(am, .inr (3, [.int (zi (pq_n T)), .ref aw, .ref av, .ref ax, .int (zi kk), .int (zi ka), .int (zi kb)])), (aw, .inl (cI, 8, .inl (zf (pq_w T)))), (av, .inl (cI, 8, .inl (zf (pq_v T)))), (ax, .inl (cI, 8, .inl (zf (pq_x T))))]) hD hS hA [0, 1, 2, 3] rfl
        refine va_callv (va_runV (As := [.int (zi i), .int (zi 1), .int (zi (-1)), .int (zi ((y - 1) / 4))]) (rest := []) ⟨hx, hb, hml, hown, hts⟩ (c_X3_fill l dC dI cI cZ cM cT s.heap.size am aw av ax T kk ka kb i 1 (-1) ((y - 1) / 4) (by first | assumption | omega | rfl)) (cwV 4 hts (goodIn_of _ (by decide +kernel)) rfl rfl rfl (by decide +kernel) ⟨Nat.le_of_ble_eq_true rfl, Nat.le_of_ble_eq_true rfl⟩) ⟨fun a U g mk q => by obtain ⟨q0, q1, qP, qK, qD⟩ := q; exact ⟨q0, q1, qP, va_K.moved (u := U) (U := U.calling g mk a) (Vm.Alike.refl U.vm) qK, qD⟩, va_recv hK hPc (ci := 3) (q0 := 0) rfl rfl, fun U hU hW => ⟨rfl, by rw [hU], by rw [hU]; exact hPc, va_K.moved hW.alike hK, hDc.weaken (fun _ _ _ _ => trivial)⟩⟩ rfl rfl hl.1 rfl (lv_room (Nat.le_of_ble_eq_true rfl)) dX3_fillByWay_50 ⟨Nat.le_of_ble_eq_true rfl, Nat.le_of_ble_eq_true rfl⟩) hS (fun q _ h => hFc q h) hFc (fun u t H1 locs ht hvm hw hB hz1 hk1 hS => ?_)
        obtain ⟨hP1, hK1, hD1⟩ := hB
        rw [ht] at hP1
        obtain ⟨hP, hD⟩ := va_join (wr := []) (w1 := [(am, .inr (3, [.int (zi (pq_n (pq_fl T i.toNat (1 : Int) (-1 : Int) ((y - 1) / 4)))), .ref aw, .ref av, .ref ax, .int (zi kk), .int (zi ka), .int (zi kb)])), (aw, .inl (cI, 8, .inl (zf (pq_w (pq_fl T i.toNat (1 : Int) (-1 : Int) ((y - 1) / 4)))))), (av, .inl (cI, 8, .inl (zf (pq_v (pq_fl T i.toNat (1 : Int) (-1 : Int) ((y - 1) / 4)))))), (ax, .inl (cI, 8, .inl (zf (pq_x (pq_fl T i.toNat (1 : Int) (-1 : Int) ((y - 1) / 4))))))]) hP hD [0, 1, 2, 3] [] rfl rfl (by decide) (by decide) hk1 hFc hP1 hD1
        generalize H1 = H at hP hS ⊢
        have hP : va_P (dC, dI) vwCl [(am, .inr (3, [.int (zi (pq_n (pq_fl T i.toNat (1 : Int) (-1 : Int) ((y - 1) / 4)))), .ref aw, .ref av, .ref ax, .int (zi kk), .int (zi ka), .int (zi kb)])), (aw, .inl (cI, 8, .inl (zf (pq_w (pq_fl T i.toNat (1 : Int) (-1 : Int) ((y - 1) / 4)))))), (av, .inl (cI, 8, .inl (zf (pq_v (pq_fl T i.toNat (1 : Int) (-1 : Int) ((y - 1) / 4)))))), (ax, .inl (cI, 8, .inl (zf (pq_x (pq_fl T i.toNat (1 : Int) (-1 : Int) ((y - 1) / 4))))))] H := hP
        have hD : va_D A [(am, .inr (3, [.int (zi (pq_n (pq_fl T i.toNat (1 : Int) (-1 : Int) ((y - 1) / 4)))), .ref aw, .ref av, .ref ax, .int (zi kk), .int (zi ka), .int (zi kb)])), (aw, .inl (cI, 8, .inl (zf (pq_w (pq_fl T i.toNat (1 : Int) (-1 : Int) ((y - 1) / 4)))))), (av, .inl (cI, 8, .inl (zf (pq_v (pq_fl T i.toNat (1 : Int) (-1 : Int) ((y - 1) / 4)))))), (ax, .inl (cI, 8, .inl (zf (pq_x (pq_fl T i.toNat (1 : Int) (-1 : Int) ((y - 1) / 4))))))] := hD
        refine W.widen (k := 0) (n := 0) (Nat.le_of_ble_eq_true rfl) (Nat.le_of_ble_eq_true rfl) ?_
        refine W.widen (k := 0) (n := 0) (Nat.le_of_ble_eq_true rfl) (Nat.le_of_ble_eq_true rfl) ?_
        exact W.vret hx hb hr (fun t ht hW => ⟨⟨(), rfl, trivial, ⟨(pq_fl T i.toNat (1 : Int) (-1 : Int) ((y - 1) / 4)), ⟨pq_ok_fl hok (by omega) (by omega) (by omega) (by omega), rfl⟩, by rw [ht]; exact hP, va_K.moved hW.alike hK, hD⟩⟩, hS.F ht⟩) hS.2.2 dX3_fillByWay_53
      · refine lv_iconst (v := zi 1) hx hb dX3_fillByWay_40 (by decide) ?_
        refine lv_goto (tgt := 45) hx hb dX3_fillByWay_41 (by decide) ?_
        refine lv_iload_n hx hb dX3_fillByWay_45 rfl (lv_at hl 3 rfl) ?_
        refine lv_iconst (v := zi 1) hx hb dX3_fillByWay_46 (by decide) ?_
        refine pz_isub hx hb dX3_fillByWay_47 ?_
        refine lv_iconst (v := zi 4) hx hb dX3_fillByWay_48 (by decide) ?_
        refine pz_idiv hx hb (by omega) dX3_fillByWay_49 ?_
        have hPc := hP.sub (ws' := [(am, .inr (3, [.int (zi (pq_n T)), .ref aw, .ref av, .ref ax, .int (zi kk), .int (zi ka), .int (zi kb)])), (aw, .inl (cI, 8, .inl (zf (pq_w T)))), (av, .inl (cI, 8, .inl (zf (pq_v T)))), (ax, .inl (cI, 8, .inl (zf (pq_x T))))]) [0, 1, 2, 3] rfl
        have hDc := hD.sub (ws' := [(am, .inr (3, [.int (zi (pq_n T)), .ref aw, .ref av, .ref ax, .int (zi kk), .int (zi ka), .int (zi kb)])), (aw, .inl (cI, 8, .inl (zf (pq_w T)))), (av, .inl (cI, 8, .inl (zf (pq_v T)))), (ax, .inl (cI, 8, .inl (zf (pq_x T))))]) [0, 1, 2, 3] (by decide) rfl
        have hFc := va_free (wc := [(am, .inr (3, [.int (zi (pq_n T)), .ref aw, .ref av, .ref ax, .int (zi kk), .int (zi ka), .int (zi kb)])), (aw, .inl (cI, 8, .inl (zf (pq_w T)))), (av, .inl (cI, 8, .inl (zf (pq_v T)))), (ax, .inl (cI, 8, .inl (zf (pq_x T))))]) hD hS hA [0, 1, 2, 3] rfl
        refine va_callv (va_runV (As := [.int (zi i), .int (zi 1), .int (zi 1), .int (zi ((y - 1) / 4))]) (rest := []) ⟨hx, hb, hml, hown, hts⟩ (c_X3_fill l dC dI cI cZ cM cT s.heap.size am aw av ax T kk ka kb i 1 1 ((y - 1) / 4) (by first | assumption | omega | rfl)) (cwV 4 hts (goodIn_of _ (by decide +kernel)) rfl rfl rfl (by decide +kernel) ⟨Nat.le_of_ble_eq_true rfl, Nat.le_of_ble_eq_true rfl⟩) ⟨fun a U g mk q => by obtain ⟨q0, q1, qP, qK, qD⟩ := q; exact ⟨q0, q1, qP, va_K.moved (u := U) (U := U.calling g mk a) (Vm.Alike.refl U.vm) qK, qD⟩, va_recv hK hPc (ci := 3) (q0 := 0) rfl rfl, fun U hU hW => ⟨rfl, by rw [hU], by rw [hU]; exact hPc, va_K.moved hW.alike hK, hDc.weaken (fun _ _ _ _ => trivial)⟩⟩ rfl rfl hl.1 rfl (lv_room (Nat.le_of_ble_eq_true rfl)) dX3_fillByWay_50 ⟨Nat.le_of_ble_eq_true rfl, Nat.le_of_ble_eq_true rfl⟩) hS (fun q _ h => hFc q h) hFc (fun u t H1 locs ht hvm hw hB hz1 hk1 hS => ?_)
        obtain ⟨hP1, hK1, hD1⟩ := hB
        rw [ht] at hP1
        obtain ⟨hP, hD⟩ := va_join (wr := []) (w1 := [(am, .inr (3, [.int (zi (pq_n (pq_fl T i.toNat (1 : Int) (1 : Int) ((y - 1) / 4)))), .ref aw, .ref av, .ref ax, .int (zi kk), .int (zi ka), .int (zi kb)])), (aw, .inl (cI, 8, .inl (zf (pq_w (pq_fl T i.toNat (1 : Int) (1 : Int) ((y - 1) / 4)))))), (av, .inl (cI, 8, .inl (zf (pq_v (pq_fl T i.toNat (1 : Int) (1 : Int) ((y - 1) / 4)))))), (ax, .inl (cI, 8, .inl (zf (pq_x (pq_fl T i.toNat (1 : Int) (1 : Int) ((y - 1) / 4))))))]) hP hD [0, 1, 2, 3] [] rfl rfl (by decide) (by decide) hk1 hFc hP1 hD1
        generalize H1 = H at hP hS ⊢
        have hP : va_P (dC, dI) vwCl [(am, .inr (3, [.int (zi (pq_n (pq_fl T i.toNat (1 : Int) (1 : Int) ((y - 1) / 4)))), .ref aw, .ref av, .ref ax, .int (zi kk), .int (zi ka), .int (zi kb)])), (aw, .inl (cI, 8, .inl (zf (pq_w (pq_fl T i.toNat (1 : Int) (1 : Int) ((y - 1) / 4)))))), (av, .inl (cI, 8, .inl (zf (pq_v (pq_fl T i.toNat (1 : Int) (1 : Int) ((y - 1) / 4)))))), (ax, .inl (cI, 8, .inl (zf (pq_x (pq_fl T i.toNat (1 : Int) (1 : Int) ((y - 1) / 4))))))] H := hP
        have hD : va_D A [(am, .inr (3, [.int (zi (pq_n (pq_fl T i.toNat (1 : Int) (1 : Int) ((y - 1) / 4)))), .ref aw, .ref av, .ref ax, .int (zi kk), .int (zi ka), .int (zi kb)])), (aw, .inl (cI, 8, .inl (zf (pq_w (pq_fl T i.toNat (1 : Int) (1 : Int) ((y - 1) / 4)))))), (av, .inl (cI, 8, .inl (zf (pq_v (pq_fl T i.toNat (1 : Int) (1 : Int) ((y - 1) / 4)))))), (ax, .inl (cI, 8, .inl (zf (pq_x (pq_fl T i.toNat (1 : Int) (1 : Int) ((y - 1) / 4))))))] := hD
        refine W.widen (k := 0) (n := 0) (Nat.le_of_ble_eq_true rfl) (Nat.le_of_ble_eq_true rfl) ?_
        refine W.widen (k := 0) (n := 0) (Nat.le_of_ble_eq_true rfl) (Nat.le_of_ble_eq_true rfl) ?_
        exact W.vret hx hb hr (fun t ht hW => ⟨⟨(), rfl, trivial, ⟨(pq_fl T i.toNat (1 : Int) (1 : Int) ((y - 1) / 4)), ⟨pq_ok_fl hok (by omega) (by omega) (by omega) (by omega), rfl⟩, by rw [ht]; exact hP, va_K.moved hW.alike hK, hD⟩⟩, hS.F ht⟩) hS.2.2 dX3_fillByWay_53
  · refine lv_aload_n hx hb dX3_fillByWay_4 rfl (lv_at hl 0 rfl) ?_
    refine lv_iload_n hx hb dX3_fillByWay_5 rfl (lv_at hl 1 rfl) ?_
    refine lv_iconst (v := zi 1) hx hb dX3_fillByWay_6 (by decide) ?_
    refine lv_iconst (v := zi 1) hx hb dX3_fillByWay_7 (by decide) ?_
    refine lv_aload_n hx hb dX3_fillByWay_8 rfl (lv_at hl 0 rfl) ?_
    refine va_get (D := (dC, dI)) (ci := 3) (v := .int (zi (pq_n T))) (C := RX3) (T := TX3) (N := 7) hx hb hts hiX3 hown hK hP 0 rfl rfl 0 (by decide) (hts (.fieldLink RX3 9 "Haltingale$Machine" "states" "I") (by decide +kernel)) (fun _ h9 => h9) rfl dX3_fillByWay_9 ?_
    have hPc := hP.sub (ws' := [(am, .inr (3, [.int (zi (pq_n T)), .ref aw, .ref av, .ref ax, .int (zi kk), .int (zi ka), .int (zi kb)])), (aw, .inl (cI, 8, .inl (zf (pq_w T)))), (av, .inl (cI, 8, .inl (zf (pq_v T)))), (ax, .inl (cI, 8, .inl (zf (pq_x T))))]) [0, 1, 2, 3] rfl
    have hDc := hD.sub (ws' := [(am, .inr (3, [.int (zi (pq_n T)), .ref aw, .ref av, .ref ax, .int (zi kk), .int (zi ka), .int (zi kb)])), (aw, .inl (cI, 8, .inl (zf (pq_w T)))), (av, .inl (cI, 8, .inl (zf (pq_v T)))), (ax, .inl (cI, 8, .inl (zf (pq_x T))))]) [0, 1, 2, 3] (by decide) rfl
    have hFc := va_free (wc := [(am, .inr (3, [.int (zi (pq_n T)), .ref aw, .ref av, .ref ax, .int (zi kk), .int (zi ka), .int (zi kb)])), (aw, .inl (cI, 8, .inl (zf (pq_w T)))), (av, .inl (cI, 8, .inl (zf (pq_v T)))), (ax, .inl (cI, 8, .inl (zf (pq_x T))))]) hD hS hA [0, 1, 2, 3] rfl
    refine va_callv (va_runV (As := [.int (zi i), .int (zi 1), .int (zi 1), .int (zi (pq_n T))]) (rest := []) ⟨hx, hb, hml, hown, hts⟩ (c_X3_fill l dC dI cI cZ cM cT s.heap.size am aw av ax T kk ka kb i 1 1 (pq_n T) (by first | assumption | omega | rfl)) (cwV 4 hts (goodIn_of _ (by decide +kernel)) rfl rfl rfl (by decide +kernel) ⟨Nat.le_of_ble_eq_true rfl, Nat.le_of_ble_eq_true rfl⟩) ⟨fun a U g mk q => by obtain ⟨q0, q1, qP, qK, qD⟩ := q; exact ⟨q0, q1, qP, va_K.moved (u := U) (U := U.calling g mk a) (Vm.Alike.refl U.vm) qK, qD⟩, va_recv hK hPc (ci := 3) (q0 := 0) rfl rfl, fun U hU hW => ⟨rfl, by rw [hU], by rw [hU]; exact hPc, va_K.moved hW.alike hK, hDc.weaken (fun _ _ _ _ => trivial)⟩⟩ rfl rfl hl.1 rfl (lv_room (Nat.le_of_ble_eq_true rfl)) dX3_fillByWay_12 ⟨Nat.le_of_ble_eq_true rfl, Nat.le_of_ble_eq_true rfl⟩) hS (fun q _ h => hFc q h) hFc (fun u t H1 locs ht hvm hw hB hz1 hk1 hS => ?_)
    obtain ⟨hP1, hK1, hD1⟩ := hB
    rw [ht] at hP1
    obtain ⟨hP, hD⟩ := va_join (wr := []) (w1 := [(am, .inr (3, [.int (zi (pq_n (pq_fl T i.toNat (1 : Int) (1 : Int) (pq_n T)))), .ref aw, .ref av, .ref ax, .int (zi kk), .int (zi ka), .int (zi kb)])), (aw, .inl (cI, 8, .inl (zf (pq_w (pq_fl T i.toNat (1 : Int) (1 : Int) (pq_n T)))))), (av, .inl (cI, 8, .inl (zf (pq_v (pq_fl T i.toNat (1 : Int) (1 : Int) (pq_n T)))))), (ax, .inl (cI, 8, .inl (zf (pq_x (pq_fl T i.toNat (1 : Int) (1 : Int) (pq_n T))))))]) hP hD [0, 1, 2, 3] [] rfl rfl (by decide) (by decide) hk1 hFc hP1 hD1
    generalize H1 = H at hP hS ⊢
    have hP : va_P (dC, dI) vwCl [(am, .inr (3, [.int (zi (pq_n (pq_fl T i.toNat (1 : Int) (1 : Int) (pq_n T)))), .ref aw, .ref av, .ref ax, .int (zi kk), .int (zi ka), .int (zi kb)])), (aw, .inl (cI, 8, .inl (zf (pq_w (pq_fl T i.toNat (1 : Int) (1 : Int) (pq_n T)))))), (av, .inl (cI, 8, .inl (zf (pq_v (pq_fl T i.toNat (1 : Int) (1 : Int) (pq_n T)))))), (ax, .inl (cI, 8, .inl (zf (pq_x (pq_fl T i.toNat (1 : Int) (1 : Int) (pq_n T))))))] H := hP
    have hD : va_D A [(am, .inr (3, [.int (zi (pq_n (pq_fl T i.toNat (1 : Int) (1 : Int) (pq_n T)))), .ref aw, .ref av, .ref ax, .int (zi kk), .int (zi ka), .int (zi kb)])), (aw, .inl (cI, 8, .inl (zf (pq_w (pq_fl T i.toNat (1 : Int) (1 : Int) (pq_n T)))))), (av, .inl (cI, 8, .inl (zf (pq_v (pq_fl T i.toNat (1 : Int) (1 : Int) (pq_n T)))))), (ax, .inl (cI, 8, .inl (zf (pq_x (pq_fl T i.toNat (1 : Int) (1 : Int) (pq_n T))))))] := hD
    refine W.widen (k := 0) (n := 0) (Nat.le_of_ble_eq_true rfl) (Nat.le_of_ble_eq_true rfl) ?_
    refine W.widen (k := 0) (n := 0) (Nat.le_of_ble_eq_true rfl) (Nat.le_of_ble_eq_true rfl) ?_
    exact W.vret hx hb hr (fun t ht hW => ⟨⟨(), rfl, trivial, ⟨(pq_fl T i.toNat (1 : Int) (1 : Int) (pq_n T)), ⟨pq_ok_fl hok (by omega) (by omega) (by omega) (by omega), rfl⟩, by rw [ht]; exact hP, va_K.moved hW.alike hK, hD⟩⟩, hS.F ht⟩) hS.2.2 dX3_fillByWay_15

def zs_c_X3_settle : List Cond := .code yX3_settle cX3_settle 4 none :: (([.fieldLink RX3 25 "Haltingale$Machine" "kind" "I", .fieldLink RX3 28 "Haltingale$Machine" "a" "I", .fieldLink RX3 31 "Haltingale$Machine" "b" "I"] : List Cond) ++ wsX30)
set_option maxHeartbeats 4000000 in
set_option maxRecDepth 100000 in
theorem c_X3_settle (l : Launch) (dC : Nat → ClassId) (dI : Nat → Nat → Nat) (cI cZ cM cT : ClassId) (sz : Nat) (am : Nat) (aw : Nat) (av : Nat) (ax : Nat) (T : pq_T) (kk : Int) (ka : Int) (kb : Int) (y1 : Int) (y2 : Int) (y3 : Int)  : Met l yX3_settle zs_c_X3_settle ({ frames := 0, cells := 0, slots := 0, locals := 0 }) (va_Pc [.ref am, .int (zi y1), .int (zi y2), .int (zi y3)] (fun U => U.heap.size = sz ∧ va_P (dC, dI) vwCl [(am, .inr (3, [.int (zi (pq_n T)), .ref aw, .ref av, .ref ax, .int (zi kk), .int (zi ka), .int (zi kb)])), (aw, .inl (cI, 8, .inl (zf (pq_w T)))), (av, .inl (cI, 8, .inl (zf (pq_v T)))), (ax, .inl (cI, 8, .inl (zf (pq_x T))))] U.heap ∧ va_K (dC, dI) vwCl (zT4 cI cZ cM cT) U ∧ va_D (fun _ => True) [(am, .inr (3, [.int (zi (pq_n T)), .ref aw, .ref av, .ref ax, .int (zi kk), .int (zi ka), .int (zi kb)])), (aw, .inl (cI, 8, .inl (zf (pq_w T)))), (av, .inl (cI, 8, .inl (zf (pq_v T)))), (ax, .inl (cI, 8, .inl (zf (pq_x T))))])) (va_Qv (fun _ : Unit => True) (fun _ t => va_P (dC, dI) vwCl [(am, .inr (3, [.int (zi (pq_n T)), .ref aw, .ref av, .ref ax, .int (zi y1), .int (zi y2), .int (zi y3)])), (aw, .inl (cI, 8, .inl (zf (pq_w T)))), (av, .inl (cI, 8, .inl (zf (pq_v T)))), (ax, .inl (cI, 8, .inl (zf (pq_x T))))] t.heap ∧ va_K (dC, dI) vwCl (zT4 cI cZ cM cT) t ∧ va_D (va_A [(am, .inr (3, [.int (zi (pq_n T)), .ref aw, .ref av, .ref ax, .int (zi kk), .int (zi ka), .int (zi kb)])), (aw, .inl (cI, 8, .inl (zf (pq_w T)))), (av, .inl (cI, 8, .inl (zf (pq_v T)))), (ax, .inl (cI, 8, .inl (zf (pq_x T))))] sz) [(am, .inr (3, [.int (zi (pq_n T)), .ref aw, .ref av, .ref ax, .int (zi y1), .int (zi y2), .int (zi y3)])), (aw, .inl (cI, 8, .inl (zf (pq_w T)))), (av, .inl (cI, 8, .inl (zf (pq_v T)))), (ax, .inl (cI, 8, .inl (zf (pq_x T))))]) (va_A [(am, .inr (3, [.int (zi (pq_n T)), .ref aw, .ref av, .ref ax, .int (zi kk), .int (zi ka), .int (zi kb)])), (aw, .inl (cI, 8, .inl (zf (pq_w T)))), (av, .inl (cI, 8, .inl (zf (pq_v T)))), (ax, .inl (cI, 8, .inl (zf (pq_x T))))] sz)) 0 0 (va_A [(am, .inr (3, [.int (zi (pq_n T)), .ref aw, .ref av, .ref ax, .int (zi kk), .int (zi ka), .int (zi kb)])), (aw, .inl (cI, 8, .inl (zf (pq_w T)))), (av, .inl (cI, 8, .inl (zf (pq_v T)))), (ax, .inl (cI, 8, .inl (zf (pq_x T))))] sz) := by
  refine Met.ofW (cc := cX3_settle) (maxL := 4) (ret := none) (by decide) rfl ?_
  intro p e s m args below meth c s₁ B hml hv
  obtain ⟨rfl, hsz, hP, hK, hD0⟩ := hv
  have hx := B.exec
  have hb := B.bytes
  have hr := B.returns
  have hts := atoms_spec (ws := zs_c_X3_settle) B.pre
  have hown : s.vm.findClass RX3 = some m.cls := findClass_of_methodNamed B.named
  have hlocks := B.notSynchronized
  have hiX3 : ∀ w ∈ wsX30, w ∈ zs_c_X3_settle := by decide +kernel
  subst hsz
  have hD := hD0.self (sz := s.heap.size)
  generalize hAe : va_A [(am, .inr (3, [.int (zi (pq_n T)), .ref aw, .ref av, .ref ax, .int (zi kk), .int (zi ka), .int (zi kb)])), (aw, .inl (cI, 8, .inl (zf (pq_w T)))), (av, .inl (cI, 8, .inl (zf (pq_v T)))), (ax, .inl (cI, 8, .inl (zf (pq_x T))))] s.heap.size = A at hD ⊢
  have hA : ∀ q : Nat, s.heap.size ≤ q → A q := fun q h => by rw [← hAe]; exact Or.inr h
  have hS : va_S A s.heap s.heap [] := va_S.rf
  have hl := lv_entry ([.ref am, .int (zi y1), .int (zi y2), .int (zi y3)]) (n := 4) (Nat.le_of_ble_eq_true rfl)
  rw [lg_entry_eq]
  generalize (lg_sl ([.ref am, .int (zi y1), .int (zi y2), .int (zi y3)]) ++ List.replicate (4 - (lg_sl ([.ref am, .int (zi y1), .int (zi y2), .int (zi y3)])).length) Slot.unset).toArray = ls at hl ⊢
  have hl : lv_has ls 4 [(0, .ref am), (1, .int (zi y1)), (2, .int (zi y2)), (3, .int (zi y3))] := hl
  refine lv_aload_n hx hb dX3_settle_0 rfl (lv_at hl 0 rfl) ?_
  refine lv_iload_n hx hb dX3_settle_1 rfl (lv_at hl 1 rfl) ?_
  refine va_put (D := (dC, dI)) (ci := 3) (v := .int (zi y1)) (ty := .int) (C := RX3) (T := TX3) (N := 7) hx hb hts hiX3 tyX3 tyX3_ok nmX3 hown hK hP hD hS 0 rfl rfl 4 (by decide) (hts (.fieldLink RX3 25 "Haltingale$Machine" "kind" "I") (by decide +kernel)) (fun _ h9 => h9) rfl (by decide +kernel) rfl rfl (Nat.le_of_ble_eq_true rfl) dX3_settle_2 (fun H locs hP hD hS => ?_)
  have hP : va_P (dC, dI) vwCl [(am, .inr (3, [.int (zi (pq_n T)), .ref aw, .ref av, .ref ax, .int (zi y1), .int (zi ka), .int (zi kb)])), (aw, .inl (cI, 8, .inl (zf (pq_w T)))), (av, .inl (cI, 8, .inl (zf (pq_v T)))), (ax, .inl (cI, 8, .inl (zf (pq_x T))))] H := hP
  have hD : va_D A [(am, .inr (3, [.int (zi (pq_n T)), .ref aw, .ref av, .ref ax, .int (zi y1), .int (zi ka), .int (zi kb)])), (aw, .inl (cI, 8, .inl (zf (pq_w T)))), (av, .inl (cI, 8, .inl (zf (pq_v T)))), (ax, .inl (cI, 8, .inl (zf (pq_x T))))] := hD
  refine lv_aload_n hx hb dX3_settle_5 rfl (lv_at hl 0 rfl) ?_
  refine lv_iload_n hx hb dX3_settle_6 rfl (lv_at hl 2 rfl) ?_
  refine va_put (D := (dC, dI)) (ci := 3) (v := .int (zi y2)) (ty := .int) (C := RX3) (T := TX3) (N := 7) hx hb hts hiX3 tyX3 tyX3_ok nmX3 hown hK hP hD hS 0 rfl rfl 5 (by decide) (hts (.fieldLink RX3 28 "Haltingale$Machine" "a" "I") (by decide +kernel)) (fun _ h9 => h9) rfl (by decide +kernel) rfl rfl (Nat.le_of_ble_eq_true rfl) dX3_settle_7 (fun H locs hP hD hS => ?_)
  have hP : va_P (dC, dI) vwCl [(am, .inr (3, [.int (zi (pq_n T)), .ref aw, .ref av, .ref ax, .int (zi y1), .int (zi y2), .int (zi kb)])), (aw, .inl (cI, 8, .inl (zf (pq_w T)))), (av, .inl (cI, 8, .inl (zf (pq_v T)))), (ax, .inl (cI, 8, .inl (zf (pq_x T))))] H := hP
  have hD : va_D A [(am, .inr (3, [.int (zi (pq_n T)), .ref aw, .ref av, .ref ax, .int (zi y1), .int (zi y2), .int (zi kb)])), (aw, .inl (cI, 8, .inl (zf (pq_w T)))), (av, .inl (cI, 8, .inl (zf (pq_v T)))), (ax, .inl (cI, 8, .inl (zf (pq_x T))))] := hD
  refine lv_aload_n hx hb dX3_settle_10 rfl (lv_at hl 0 rfl) ?_
  refine lv_iload_n hx hb dX3_settle_11 rfl (lv_at hl 3 rfl) ?_
  refine va_put (D := (dC, dI)) (ci := 3) (v := .int (zi y3)) (ty := .int) (C := RX3) (T := TX3) (N := 7) hx hb hts hiX3 tyX3 tyX3_ok nmX3 hown hK hP hD hS 0 rfl rfl 6 (by decide) (hts (.fieldLink RX3 31 "Haltingale$Machine" "b" "I") (by decide +kernel)) (fun _ h9 => h9) rfl (by decide +kernel) rfl rfl (Nat.le_of_ble_eq_true rfl) dX3_settle_12 (fun H locs hP hD hS => ?_)
  have hP : va_P (dC, dI) vwCl [(am, .inr (3, [.int (zi (pq_n T)), .ref aw, .ref av, .ref ax, .int (zi y1), .int (zi y2), .int (zi y3)])), (aw, .inl (cI, 8, .inl (zf (pq_w T)))), (av, .inl (cI, 8, .inl (zf (pq_v T)))), (ax, .inl (cI, 8, .inl (zf (pq_x T))))] H := hP
  have hD : va_D A [(am, .inr (3, [.int (zi (pq_n T)), .ref aw, .ref av, .ref ax, .int (zi y1), .int (zi y2), .int (zi y3)])), (aw, .inl (cI, 8, .inl (zf (pq_w T)))), (av, .inl (cI, 8, .inl (zf (pq_v T)))), (ax, .inl (cI, 8, .inl (zf (pq_x T))))] := hD
  refine W.widen (k := 0) (n := 0) (Nat.le_of_ble_eq_true rfl) (Nat.le_of_ble_eq_true rfl) ?_
  exact W.vret hx hb hr (fun t ht hW => ⟨⟨(), rfl, trivial, ⟨by rw [ht]; exact hP, va_K.moved hW.alike hK, hD⟩⟩, hS.F ht⟩) hS.2.2 dX3_settle_15

def zs_c_X3_copy : List Cond := .code yX3_copy cX3_copy 3 none :: (([.fieldLink RX3 15 "Haltingale$Machine" "writes" "[I", .fieldLink RX3 19 "Haltingale$Machine" "moves" "[I", .fieldLink RX3 22 "Haltingale$Machine" "nexts" "[I"] : List Cond) ++ wsX30)
set_option maxHeartbeats 4000000 in
set_option maxRecDepth 100000 in
theorem c_X3_copy (l : Launch) (dC : Nat → ClassId) (dI : Nat → Nat → Nat) (cI cZ cM cT : ClassId) (sz : Nat) (am : Nat) (aw : Nat) (av : Nat) (ax : Nat) (T : pq_T) (kk : Int) (ka : Int) (kb : Int) (am2 : Nat) (aw2 : Nat) (av2 : Nat) (ax2 : Nat) (T2 : pq_T) (kk2 : Int) (ka2 : Int) (kb2 : Int)  : Met l yX3_copy zs_c_X3_copy ({ frames := 0, cells := 0, slots := 0, locals := 0 }) (va_Pc [.ref am, .ref am2] (fun U => U.heap.size = sz ∧ va_P (dC, dI) vwCl [(am, .inr (3, [.int (zi (pq_n T)), .ref aw, .ref av, .ref ax, .int (zi kk), .int (zi ka), .int (zi kb)])), (aw, .inl (cI, 8, .inl (zf (pq_w T)))), (av, .inl (cI, 8, .inl (zf (pq_v T)))), (ax, .inl (cI, 8, .inl (zf (pq_x T)))), (am2, .inr (3, [.int (zi (pq_n T2)), .ref aw2, .ref av2, .ref ax2, .int (zi kk2), .int (zi ka2), .int (zi kb2)])), (aw2, .inl (cI, 8, .inl (zf (pq_w T2)))), (av2, .inl (cI, 8, .inl (zf (pq_v T2)))), (ax2, .inl (cI, 8, .inl (zf (pq_x T2))))] U.heap ∧ va_K (dC, dI) vwCl (zT4 cI cZ cM cT) U ∧ va_D (fun _ => True) [(am, .inr (3, [.int (zi (pq_n T)), .ref aw, .ref av, .ref ax, .int (zi kk), .int (zi ka), .int (zi kb)])), (aw, .inl (cI, 8, .inl (zf (pq_w T)))), (av, .inl (cI, 8, .inl (zf (pq_v T)))), (ax, .inl (cI, 8, .inl (zf (pq_x T)))), (am2, .inr (3, [.int (zi (pq_n T2)), .ref aw2, .ref av2, .ref ax2, .int (zi kk2), .int (zi ka2), .int (zi kb2)])), (aw2, .inl (cI, 8, .inl (zf (pq_w T2)))), (av2, .inl (cI, 8, .inl (zf (pq_v T2)))), (ax2, .inl (cI, 8, .inl (zf (pq_x T2))))])) (va_Qv (fun _ : Unit => True) (fun _ t => ∃ (T1 : pq_T), (pq_n T1 = pq_n T ∧ ∀ c : Nat, c < 8 → pq_w T1 c = pq_w T2 c ∧ pq_v T1 c = pq_v T2 c ∧ pq_x T1 c = pq_x T2 c) ∧ va_P (dC, dI) vwCl [(am, .inr (3, [.int (zi (pq_n T1)), .ref aw, .ref av, .ref ax, .int (zi kk), .int (zi ka), .int (zi kb)])), (aw, .inl (cI, 8, .inl (zf (pq_w T1)))), (av, .inl (cI, 8, .inl (zf (pq_v T1)))), (ax, .inl (cI, 8, .inl (zf (pq_x T1)))), (am2, .inr (3, [.int (zi (pq_n T2)), .ref aw2, .ref av2, .ref ax2, .int (zi kk2), .int (zi ka2), .int (zi kb2)])), (aw2, .inl (cI, 8, .inl (zf (pq_w T2)))), (av2, .inl (cI, 8, .inl (zf (pq_v T2)))), (ax2, .inl (cI, 8, .inl (zf (pq_x T2))))] t.heap ∧ va_K (dC, dI) vwCl (zT4 cI cZ cM cT) t ∧ va_D (va_A [(am, .inr (3, [.int (zi (pq_n T)), .ref aw, .ref av, .ref ax, .int (zi kk), .int (zi ka), .int (zi kb)])), (aw, .inl (cI, 8, .inl (zf (pq_w T)))), (av, .inl (cI, 8, .inl (zf (pq_v T)))), (ax, .inl (cI, 8, .inl (zf (pq_x T)))), (am2, .inr (3, [.int (zi (pq_n T2)), .ref aw2, .ref av2, .ref ax2, .int (zi kk2), .int (zi ka2), .int (zi kb2)])), (aw2, .inl (cI, 8, .inl (zf (pq_w T2)))), (av2, .inl (cI, 8, .inl (zf (pq_v T2)))), (ax2, .inl (cI, 8, .inl (zf (pq_x T2))))] sz) [(am, .inr (3, [.int (zi (pq_n T1)), .ref aw, .ref av, .ref ax, .int (zi kk), .int (zi ka), .int (zi kb)])), (aw, .inl (cI, 8, .inl (zf (pq_w T1)))), (av, .inl (cI, 8, .inl (zf (pq_v T1)))), (ax, .inl (cI, 8, .inl (zf (pq_x T1)))), (am2, .inr (3, [.int (zi (pq_n T2)), .ref aw2, .ref av2, .ref ax2, .int (zi kk2), .int (zi ka2), .int (zi kb2)])), (aw2, .inl (cI, 8, .inl (zf (pq_w T2)))), (av2, .inl (cI, 8, .inl (zf (pq_v T2)))), (ax2, .inl (cI, 8, .inl (zf (pq_x T2))))]) (va_A [(am, .inr (3, [.int (zi (pq_n T)), .ref aw, .ref av, .ref ax, .int (zi kk), .int (zi ka), .int (zi kb)])), (aw, .inl (cI, 8, .inl (zf (pq_w T)))), (av, .inl (cI, 8, .inl (zf (pq_v T)))), (ax, .inl (cI, 8, .inl (zf (pq_x T)))), (am2, .inr (3, [.int (zi (pq_n T2)), .ref aw2, .ref av2, .ref ax2, .int (zi kk2), .int (zi ka2), .int (zi kb2)])), (aw2, .inl (cI, 8, .inl (zf (pq_w T2)))), (av2, .inl (cI, 8, .inl (zf (pq_v T2)))), (ax2, .inl (cI, 8, .inl (zf (pq_x T2))))] sz)) 0 0 (va_A [(am, .inr (3, [.int (zi (pq_n T)), .ref aw, .ref av, .ref ax, .int (zi kk), .int (zi ka), .int (zi kb)])), (aw, .inl (cI, 8, .inl (zf (pq_w T)))), (av, .inl (cI, 8, .inl (zf (pq_v T)))), (ax, .inl (cI, 8, .inl (zf (pq_x T)))), (am2, .inr (3, [.int (zi (pq_n T2)), .ref aw2, .ref av2, .ref ax2, .int (zi kk2), .int (zi ka2), .int (zi kb2)])), (aw2, .inl (cI, 8, .inl (zf (pq_w T2)))), (av2, .inl (cI, 8, .inl (zf (pq_v T2)))), (ax2, .inl (cI, 8, .inl (zf (pq_x T2))))] sz) := by
  refine Met.ofW (cc := cX3_copy) (maxL := 3) (ret := none) (by decide) rfl ?_
  intro p e s m args below meth c s₁ B hml hv
  obtain ⟨rfl, hsz, hP, hK, hD0⟩ := hv
  have hx := B.exec
  have hb := B.bytes
  have hr := B.returns
  have hts := atoms_spec (ws := zs_c_X3_copy) B.pre
  have hown : s.vm.findClass RX3 = some m.cls := findClass_of_methodNamed B.named
  have hlocks := B.notSynchronized
  have hiX3 : ∀ w ∈ wsX30, w ∈ zs_c_X3_copy := by decide +kernel
  subst hsz
  have hD := hD0.self (sz := s.heap.size)
  generalize hAe : va_A [(am, .inr (3, [.int (zi (pq_n T)), .ref aw, .ref av, .ref ax, .int (zi kk), .int (zi ka), .int (zi kb)])), (aw, .inl (cI, 8, .inl (zf (pq_w T)))), (av, .inl (cI, 8, .inl (zf (pq_v T)))), (ax, .inl (cI, 8, .inl (zf (pq_x T)))), (am2, .inr (3, [.int (zi (pq_n T2)), .ref aw2, .ref av2, .ref ax2, .int (zi kk2), .int (zi ka2), .int (zi kb2)])), (aw2, .inl (cI, 8, .inl (zf (pq_w T2)))), (av2, .inl (cI, 8, .inl (zf (pq_v T2)))), (ax2, .inl (cI, 8, .inl (zf (pq_x T2))))] s.heap.size = A at hD ⊢
  have hA : ∀ q : Nat, s.heap.size ≤ q → A q := fun q h => by rw [← hAe]; exact Or.inr h
  have hS : va_S A s.heap s.heap [] := va_S.rf
  have hl := lv_entry ([.ref am, .ref am2]) (n := 3) (Nat.le_of_ble_eq_true rfl)
  rw [lg_entry_eq]
  generalize (lg_sl ([.ref am, .ref am2]) ++ List.replicate (3 - (lg_sl ([.ref am, .ref am2])).length) Slot.unset).toArray = ls at hl ⊢
  have hl : lv_has ls 3 [(0, .ref am), (1, .ref am2)] := hl
  refine lv_iconst (v := zi 0) hx hb dX3_copy_0 (by decide) ?_
  refine lv_istore_n (lv' := [(2, .int (zi 0)), (0, .ref am), (1, .ref am2)]) hx hb dX3_copy_1 rfl hl (by decide) rfl (fun ls hl => ?_)
  have hP : va_P (dC, dI) vwCl [(am, .inr (3, [.int (zi (pq_n (pq_n T, (pq_w T), (pq_v T), (pq_x T)))), .ref aw, .ref av, .ref ax, .int (zi kk), .int (zi ka), .int (zi kb)])), (aw, .inl (cI, 8, .inl (zf (pq_w (pq_n T, (pq_w T), (pq_v T), (pq_x T)))))), (av, .inl (cI, 8, .inl (zf (pq_v (pq_n T, (pq_w T), (pq_v T), (pq_x T)))))), (ax, .inl (cI, 8, .inl (zf (pq_x (pq_n T, (pq_w T), (pq_v T), (pq_x T)))))), (am2, .inr (3, [.int (zi (pq_n T2)), .ref aw2, .ref av2, .ref ax2, .int (zi kk2), .int (zi ka2), .int (zi kb2)])), (aw2, .inl (cI, 8, .inl (zf (pq_w T2)))), (av2, .inl (cI, 8, .inl (zf (pq_v T2)))), (ax2, .inl (cI, 8, .inl (zf (pq_x T2))))] s.heap := hP
  have hD : va_D A [(am, .inr (3, [.int (zi (pq_n (pq_n T, (pq_w T), (pq_v T), (pq_x T)))), .ref aw, .ref av, .ref ax, .int (zi kk), .int (zi ka), .int (zi kb)])), (aw, .inl (cI, 8, .inl (zf (pq_w (pq_n T, (pq_w T), (pq_v T), (pq_x T)))))), (av, .inl (cI, 8, .inl (zf (pq_v (pq_n T, (pq_w T), (pq_v T), (pq_x T)))))), (ax, .inl (cI, 8, .inl (zf (pq_x (pq_n T, (pq_w T), (pq_v T), (pq_x T)))))), (am2, .inr (3, [.int (zi (pq_n T2)), .ref aw2, .ref av2, .ref ax2, .int (zi kk2), .int (zi ka2), .int (zi kb2)])), (aw2, .inl (cI, 8, .inl (zf (pq_w T2)))), (av2, .inl (cI, 8, .inl (zf (pq_v T2)))), (ax2, .inl (cI, 8, .inl (zf (pq_x T2))))] := hD
  refine pz_loop (fun n H locs ls => ∃ (f1 : Nat → Int) (f2 : Nat → Int) (f3 : Nat → Int) (j : Int) , n = (8 - j).toNat ∧ (0 ≤ j ∧ j ≤ 8) ∧ (∀ c : Nat, (c : Int) < j → f1 c = pq_w T2 c ∧ f2 c = pq_v T2 c ∧ f3 c = pq_x T2 c) ∧ va_P (dC, dI) vwCl [(am, .inr (3, [.int (zi (pq_n (pq_n T, f1, f2, f3))), .ref aw, .ref av, .ref ax, .int (zi kk), .int (zi ka), .int (zi kb)])), (aw, .inl (cI, 8, .inl (zf (pq_w (pq_n T, f1, f2, f3))))), (av, .inl (cI, 8, .inl (zf (pq_v (pq_n T, f1, f2, f3))))), (ax, .inl (cI, 8, .inl (zf (pq_x (pq_n T, f1, f2, f3))))), (am2, .inr (3, [.int (zi (pq_n T2)), .ref aw2, .ref av2, .ref ax2, .int (zi kk2), .int (zi ka2), .int (zi kb2)])), (aw2, .inl (cI, 8, .inl (zf (pq_w T2)))), (av2, .inl (cI, 8, .inl (zf (pq_v T2)))), (ax2, .inl (cI, 8, .inl (zf (pq_x T2))))] H ∧ va_D A [(am, .inr (3, [.int (zi (pq_n (pq_n T, f1, f2, f3))), .ref aw, .ref av, .ref ax, .int (zi kk), .int (zi ka), .int (zi kb)])), (aw, .inl (cI, 8, .inl (zf (pq_w (pq_n T, f1, f2, f3))))), (av, .inl (cI, 8, .inl (zf (pq_v (pq_n T, f1, f2, f3))))), (ax, .inl (cI, 8, .inl (zf (pq_x (pq_n T, f1, f2, f3))))), (am2, .inr (3, [.int (zi (pq_n T2)), .ref aw2, .ref av2, .ref ax2, .int (zi kk2), .int (zi ka2), .int (zi kb2)])), (aw2, .inl (cI, 8, .inl (zf (pq_w T2)))), (av2, .inl (cI, 8, .inl (zf (pq_v T2)))), (ax2, .inl (cI, 8, .inl (zf (pq_x T2))))] ∧ va_S A s.heap H locs ∧ lv_has ls 3 [(0, .ref am), (1, .ref am2), (2, .int (zi j))]) (fun n_2 H locs ls hI ih_2 => ?_) _ ⟨pq_w T, pq_v T, pq_x T, 0, rfl, (by first | assumption | omega | rfl), fun c hc => absurd hc (by omega), hP, hD, hS, lv_sub hl [1, 2, 0] rfl⟩
  obtain ⟨f1, f2, f3, j, hn_2, hj, hf, hP, hD, hS, hl⟩ := hI
  refine lv_iload_n hx hb dX3_copy_2 rfl (lv_at hl 2 rfl) ?_
  refine lv_bipush (v := zi 8) hx hb dX3_copy_3 (by decide) ?_
  refine pz_icmp_ge (tgt := 50) hx hb (by omega) dX3_copy_5 (by decide) (fun c_1 => ?_) (fun c_1 => ?_)
  · refine W.widen (k := 0) (n := 0) (Nat.le_of_ble_eq_true rfl) (Nat.le_of_ble_eq_true rfl) ?_
    exact W.vret hx hb hr (fun t ht hW => ⟨⟨(), rfl, trivial, ⟨(pq_n T, f1, f2, f3), ⟨rfl, fun c hc => hf c (by omega)⟩, by rw [ht]; exact hP, va_K.moved hW.alike hK, hD⟩⟩, hS.F ht⟩) hS.2.2 dX3_copy_50
  · refine lv_aload_n hx hb dX3_copy_8 rfl (lv_at hl 0 rfl) ?_
    refine va_get (D := (dC, dI)) (ci := 3) (v := .ref aw) (C := RX3) (T := TX3) (N := 7) hx hb hts hiX3 hown hK hP 0 rfl rfl 1 (by decide) (hts (.fieldLink RX3 15 "Haltingale$Machine" "writes" "[I") (by decide +kernel)) (fun _ h9 => h9) rfl dX3_copy_9 ?_
    refine lv_iload_n hx hb dX3_copy_12 rfl (lv_at hl 2 rfl) ?_
    refine lv_aload_n hx hb dX3_copy_13 rfl (lv_at hl 1 rfl) ?_
    refine va_get (D := (dC, dI)) (ci := 3) (v := .ref aw2) (C := RX3) (T := TX3) (N := 7) hx hb hts hiX3 hown hK hP 4 rfl rfl 1 (by decide) (hts (.fieldLink RX3 15 "Haltingale$Machine" "writes" "[I") (by decide +kernel)) (fun _ h9 => h9) rfl dX3_copy_14 ?_
    refine lv_iload_n hx hb dX3_copy_17 rfl (lv_at hl 2 rfl) ?_
    refine pz_iald hx hb hK hP 5 0 rfl rfl (i := j) (by omega) dX3_copy_18 ?_
    refine pz_iast hx hb hK hP hD hS 1 0 rfl rfl (i := j) (x := pq_w T2 j.toNat) (by omega) dX3_copy_19 (fun H locs hP hD hS => ?_)
    have hP : va_P (dC, dI) vwCl [(am, .inr (3, [.int (zi (pq_n (pq_n T, f1, f2, f3))), .ref aw, .ref av, .ref ax, .int (zi kk), .int (zi ka), .int (zi kb)])), (aw, .inl (cI, 8, .inl (zf (pz_u (pq_w (pq_n T, f1, f2, f3)) j.toNat (pq_w T2 j.toNat))))), (av, .inl (cI, 8, .inl (zf (pq_v (pq_n T, f1, f2, f3))))), (ax, .inl (cI, 8, .inl (zf (pq_x (pq_n T, f1, f2, f3))))), (am2, .inr (3, [.int (zi (pq_n T2)), .ref aw2, .ref av2, .ref ax2, .int (zi kk2), .int (zi ka2), .int (zi kb2)])), (aw2, .inl (cI, 8, .inl (zf (pq_w T2)))), (av2, .inl (cI, 8, .inl (zf (pq_v T2)))), (ax2, .inl (cI, 8, .inl (zf (pq_x T2))))] H := hP
    have hD : va_D A [(am, .inr (3, [.int (zi (pq_n (pq_n T, f1, f2, f3))), .ref aw, .ref av, .ref ax, .int (zi kk), .int (zi ka), .int (zi kb)])), (aw, .inl (cI, 8, .inl (zf (pz_u (pq_w (pq_n T, f1, f2, f3)) j.toNat (pq_w T2 j.toNat))))), (av, .inl (cI, 8, .inl (zf (pq_v (pq_n T, f1, f2, f3))))), (ax, .inl (cI, 8, .inl (zf (pq_x (pq_n T, f1, f2, f3))))), (am2, .inr (3, [.int (zi (pq_n T2)), .ref aw2, .ref av2, .ref ax2, .int (zi kk2), .int (zi ka2), .int (zi kb2)])), (aw2, .inl (cI, 8, .inl (zf (pq_w T2)))), (av2, .inl (cI, 8, .inl (zf (pq_v T2)))), (ax2, .inl (cI, 8, .inl (zf (pq_x T2))))] := hD
    refine lv_aload_n hx hb dX3_copy_20 rfl (lv_at hl 0 rfl) ?_
    refine va_get (D := (dC, dI)) (ci := 3) (v := .ref av) (C := RX3) (T := TX3) (N := 7) hx hb hts hiX3 hown hK hP 0 rfl rfl 2 (by decide) (hts (.fieldLink RX3 19 "Haltingale$Machine" "moves" "[I") (by decide +kernel)) (fun _ h9 => h9) rfl dX3_copy_21 ?_
    refine lv_iload_n hx hb dX3_copy_24 rfl (lv_at hl 2 rfl) ?_
    refine lv_aload_n hx hb dX3_copy_25 rfl (lv_at hl 1 rfl) ?_
    refine va_get (D := (dC, dI)) (ci := 3) (v := .ref av2) (C := RX3) (T := TX3) (N := 7) hx hb hts hiX3 hown hK hP 4 rfl rfl 2 (by decide) (hts (.fieldLink RX3 19 "Haltingale$Machine" "moves" "[I") (by decide +kernel)) (fun _ h9 => h9) rfl dX3_copy_26 ?_
    refine lv_iload_n hx hb dX3_copy_29 rfl (lv_at hl 2 rfl) ?_
    refine pz_iald hx hb hK hP 6 0 rfl rfl (i := j) (by omega) dX3_copy_30 ?_
    refine pz_iast hx hb hK hP hD hS 2 0 rfl rfl (i := j) (x := pq_v T2 j.toNat) (by omega) dX3_copy_31 (fun H locs hP hD hS => ?_)
    have hP : va_P (dC, dI) vwCl [(am, .inr (3, [.int (zi (pq_n (pq_n T, f1, f2, f3))), .ref aw, .ref av, .ref ax, .int (zi kk), .int (zi ka), .int (zi kb)])), (aw, .inl (cI, 8, .inl (zf (pz_u (pq_w (pq_n T, f1, f2, f3)) j.toNat (pq_w T2 j.toNat))))), (av, .inl (cI, 8, .inl (zf (pz_u (pq_v (pq_n T, f1, f2, f3)) j.toNat (pq_v T2 j.toNat))))), (ax, .inl (cI, 8, .inl (zf (pq_x (pq_n T, f1, f2, f3))))), (am2, .inr (3, [.int (zi (pq_n T2)), .ref aw2, .ref av2, .ref ax2, .int (zi kk2), .int (zi ka2), .int (zi kb2)])), (aw2, .inl (cI, 8, .inl (zf (pq_w T2)))), (av2, .inl (cI, 8, .inl (zf (pq_v T2)))), (ax2, .inl (cI, 8, .inl (zf (pq_x T2))))] H := hP
    have hD : va_D A [(am, .inr (3, [.int (zi (pq_n (pq_n T, f1, f2, f3))), .ref aw, .ref av, .ref ax, .int (zi kk), .int (zi ka), .int (zi kb)])), (aw, .inl (cI, 8, .inl (zf (pz_u (pq_w (pq_n T, f1, f2, f3)) j.toNat (pq_w T2 j.toNat))))), (av, .inl (cI, 8, .inl (zf (pz_u (pq_v (pq_n T, f1, f2, f3)) j.toNat (pq_v T2 j.toNat))))), (ax, .inl (cI, 8, .inl (zf (pq_x (pq_n T, f1, f2, f3))))), (am2, .inr (3, [.int (zi (pq_n T2)), .ref aw2, .ref av2, .ref ax2, .int (zi kk2), .int (zi ka2), .int (zi kb2)])), (aw2, .inl (cI, 8, .inl (zf (pq_w T2)))), (av2, .inl (cI, 8, .inl (zf (pq_v T2)))), (ax2, .inl (cI, 8, .inl (zf (pq_x T2))))] := hD
    refine lv_aload_n hx hb dX3_copy_32 rfl (lv_at hl 0 rfl) ?_
    refine va_get (D := (dC, dI)) (ci := 3) (v := .ref ax) (C := RX3) (T := TX3) (N := 7) hx hb hts hiX3 hown hK hP 0 rfl rfl 3 (by decide) (hts (.fieldLink RX3 22 "Haltingale$Machine" "nexts" "[I") (by decide +kernel)) (fun _ h9 => h9) rfl dX3_copy_33 ?_
    refine lv_iload_n hx hb dX3_copy_36 rfl (lv_at hl 2 rfl) ?_
    refine lv_aload_n hx hb dX3_copy_37 rfl (lv_at hl 1 rfl) ?_
    refine va_get (D := (dC, dI)) (ci := 3) (v := .ref ax2) (C := RX3) (T := TX3) (N := 7) hx hb hts hiX3 hown hK hP 4 rfl rfl 3 (by decide) (hts (.fieldLink RX3 22 "Haltingale$Machine" "nexts" "[I") (by decide +kernel)) (fun _ h9 => h9) rfl dX3_copy_38 ?_
    refine lv_iload_n hx hb dX3_copy_41 rfl (lv_at hl 2 rfl) ?_
    refine pz_iald hx hb hK hP 7 0 rfl rfl (i := j) (by omega) dX3_copy_42 ?_
    refine pz_iast hx hb hK hP hD hS 3 0 rfl rfl (i := j) (x := pq_x T2 j.toNat) (by omega) dX3_copy_43 (fun H locs hP hD hS => ?_)
    have hP : va_P (dC, dI) vwCl [(am, .inr (3, [.int (zi (pq_n (pq_n T, f1, f2, f3))), .ref aw, .ref av, .ref ax, .int (zi kk), .int (zi ka), .int (zi kb)])), (aw, .inl (cI, 8, .inl (zf (pz_u (pq_w (pq_n T, f1, f2, f3)) j.toNat (pq_w T2 j.toNat))))), (av, .inl (cI, 8, .inl (zf (pz_u (pq_v (pq_n T, f1, f2, f3)) j.toNat (pq_v T2 j.toNat))))), (ax, .inl (cI, 8, .inl (zf (pz_u (pq_x (pq_n T, f1, f2, f3)) j.toNat (pq_x T2 j.toNat))))), (am2, .inr (3, [.int (zi (pq_n T2)), .ref aw2, .ref av2, .ref ax2, .int (zi kk2), .int (zi ka2), .int (zi kb2)])), (aw2, .inl (cI, 8, .inl (zf (pq_w T2)))), (av2, .inl (cI, 8, .inl (zf (pq_v T2)))), (ax2, .inl (cI, 8, .inl (zf (pq_x T2))))] H := hP
    have hD : va_D A [(am, .inr (3, [.int (zi (pq_n (pq_n T, f1, f2, f3))), .ref aw, .ref av, .ref ax, .int (zi kk), .int (zi ka), .int (zi kb)])), (aw, .inl (cI, 8, .inl (zf (pz_u (pq_w (pq_n T, f1, f2, f3)) j.toNat (pq_w T2 j.toNat))))), (av, .inl (cI, 8, .inl (zf (pz_u (pq_v (pq_n T, f1, f2, f3)) j.toNat (pq_v T2 j.toNat))))), (ax, .inl (cI, 8, .inl (zf (pz_u (pq_x (pq_n T, f1, f2, f3)) j.toNat (pq_x T2 j.toNat))))), (am2, .inr (3, [.int (zi (pq_n T2)), .ref aw2, .ref av2, .ref ax2, .int (zi kk2), .int (zi ka2), .int (zi kb2)])), (aw2, .inl (cI, 8, .inl (zf (pq_w T2)))), (av2, .inl (cI, 8, .inl (zf (pq_v T2)))), (ax2, .inl (cI, 8, .inl (zf (pq_x T2))))] := hD
    refine pz_iinc (lv' := [(2, .int (zi (j + 1))), (0, .ref am), (1, .ref am2)]) hx hb dX3_copy_44 hl (k := 2) rfl (by decide) rfl (fun ls hl => ?_)
    refine lv_goto (tgt := 2) hx hb dX3_copy_47 (by decide) ?_
    have hP : va_P (dC, dI) vwCl [(am, .inr (3, [.int (zi (pq_n (pq_n T, (pz_u f1 j.toNat (pq_w T2 j.toNat)), (pz_u f2 j.toNat (pq_v T2 j.toNat)), (pz_u f3 j.toNat (pq_x T2 j.toNat))))), .ref aw, .ref av, .ref ax, .int (zi kk), .int (zi ka), .int (zi kb)])), (aw, .inl (cI, 8, .inl (zf (pq_w (pq_n T, (pz_u f1 j.toNat (pq_w T2 j.toNat)), (pz_u f2 j.toNat (pq_v T2 j.toNat)), (pz_u f3 j.toNat (pq_x T2 j.toNat))))))), (av, .inl (cI, 8, .inl (zf (pq_v (pq_n T, (pz_u f1 j.toNat (pq_w T2 j.toNat)), (pz_u f2 j.toNat (pq_v T2 j.toNat)), (pz_u f3 j.toNat (pq_x T2 j.toNat))))))), (ax, .inl (cI, 8, .inl (zf (pq_x (pq_n T, (pz_u f1 j.toNat (pq_w T2 j.toNat)), (pz_u f2 j.toNat (pq_v T2 j.toNat)), (pz_u f3 j.toNat (pq_x T2 j.toNat))))))), (am2, .inr (3, [.int (zi (pq_n T2)), .ref aw2, .ref av2, .ref ax2, .int (zi kk2), .int (zi ka2), .int (zi kb2)])), (aw2, .inl (cI, 8, .inl (zf (pq_w T2)))), (av2, .inl (cI, 8, .inl (zf (pq_v T2)))), (ax2, .inl (cI, 8, .inl (zf (pq_x T2))))] H := hP
    have hD : va_D A [(am, .inr (3, [.int (zi (pq_n (pq_n T, (pz_u f1 j.toNat (pq_w T2 j.toNat)), (pz_u f2 j.toNat (pq_v T2 j.toNat)), (pz_u f3 j.toNat (pq_x T2 j.toNat))))), .ref aw, .ref av, .ref ax, .int (zi kk), .int (zi ka), .int (zi kb)])), (aw, .inl (cI, 8, .inl (zf (pq_w (pq_n T, (pz_u f1 j.toNat (pq_w T2 j.toNat)), (pz_u f2 j.toNat (pq_v T2 j.toNat)), (pz_u f3 j.toNat (pq_x T2 j.toNat))))))), (av, .inl (cI, 8, .inl (zf (pq_v (pq_n T, (pz_u f1 j.toNat (pq_w T2 j.toNat)), (pz_u f2 j.toNat (pq_v T2 j.toNat)), (pz_u f3 j.toNat (pq_x T2 j.toNat))))))), (ax, .inl (cI, 8, .inl (zf (pq_x (pq_n T, (pz_u f1 j.toNat (pq_w T2 j.toNat)), (pz_u f2 j.toNat (pq_v T2 j.toNat)), (pz_u f3 j.toNat (pq_x T2 j.toNat))))))), (am2, .inr (3, [.int (zi (pq_n T2)), .ref aw2, .ref av2, .ref ax2, .int (zi kk2), .int (zi ka2), .int (zi kb2)])), (aw2, .inl (cI, 8, .inl (zf (pq_w T2)))), (av2, .inl (cI, 8, .inl (zf (pq_v T2)))), (ax2, .inl (cI, 8, .inl (zf (pq_x T2))))] := hD
    exact ih_2 _ _ _ _ ⟨pz_u f1 j.toNat (pq_w T2 j.toNat), pz_u f2 j.toNat (pq_v T2 j.toNat), pz_u f3 j.toNat (pq_x T2 j.toNat), j + 1, rfl, (by first | assumption | omega | rfl), fun c hc => pz_u3 hj.1 hf hc, hP, hD, hS, lv_sub hl [1, 2, 0] rfl⟩ (by omega)

def zs_c_X3_init : List Cond := .code yX3_init cX3_init 3 none :: (([.methodLink RX3 3 objectInit, .instanceMethod objectInit, .code objectInit ⟨#[0xb1]⟩ 1 none, .fieldLink RX3 9 "Haltingale$Machine" "states" "I", .arrayClass .int, .fieldLink RX3 15 "Haltingale$Machine" "writes" "[I", .fieldLink RX3 19 "Haltingale$Machine" "moves" "[I", .fieldLink RX3 22 "Haltingale$Machine" "nexts" "[I", .fieldLink RX3 25 "Haltingale$Machine" "kind" "I", .fieldLink RX3 28 "Haltingale$Machine" "a" "I", .fieldLink RX3 31 "Haltingale$Machine" "b" "I"] : List Cond) ++ wsX30)
set_option maxHeartbeats 4000000 in
set_option maxRecDepth 100000 in
theorem c_X3_init (l : Launch) (dC : Nat → ClassId) (dI : Nat → Nat → Nat) (cI cZ cM cT : ClassId) (sz : Nat) (am : Nat) (y : Int)  : Met l yX3_init zs_c_X3_init ({ frames := 1, cells := 3, slots := 24, locals := 12 }) (va_Pc [.ref am, .int (zi y)] (fun U => U.heap.size = sz ∧ va_P (dC, dI) vwCl [(am, .inr (3, [.int 0, .null, .null, .null, .int 0, .int 0, .int 0]))] U.heap ∧ va_K (dC, dI) vwCl (zT4 cI cZ cM cT) U ∧ va_D (fun _ => True) [(am, .inr (3, [.int 0, .null, .null, .null, .int 0, .int 0, .int 0]))])) (va_Qv (fun _ : Unit => True) (fun _ t => ∃ (aw : Nat) (av : Nat) (ax : Nat) (T1 : pq_T), (pq_n T1 = y ∧ ∀ c : Nat, c < 8 → pq_w T1 c = -1) ∧ va_P (dC, dI) vwCl [(am, .inr (3, [.int (zi (pq_n T1)), .ref aw, .ref av, .ref ax, .int (zi (-1)), .int (zi (-1)), .int (zi (-1))])), (aw, .inl (cI, 8, .inl (zf (pq_w T1)))), (av, .inl (cI, 8, .inl (zf (pq_v T1)))), (ax, .inl (cI, 8, .inl (zf (pq_x T1))))] t.heap ∧ va_K (dC, dI) vwCl (zT4 cI cZ cM cT) t ∧ va_D (va_A [(am, .inr (3, [.int 0, .null, .null, .null, .int 0, .int 0, .int 0]))] sz) [(am, .inr (3, [.int (zi (pq_n T1)), .ref aw, .ref av, .ref ax, .int (zi (-1)), .int (zi (-1)), .int (zi (-1))])), (aw, .inl (cI, 8, .inl (zf (pq_w T1)))), (av, .inl (cI, 8, .inl (zf (pq_v T1)))), (ax, .inl (cI, 8, .inl (zf (pq_x T1))))]) (va_A [(am, .inr (3, [.int 0, .null, .null, .null, .int 0, .int 0, .int 0]))] sz)) 3 24 (va_A [(am, .inr (3, [.int 0, .null, .null, .null, .int 0, .int 0, .int 0]))] sz) := by
  refine Met.ofW (cc := cX3_init) (maxL := 3) (ret := none) (by decide) rfl ?_
  intro p e s m args below meth c s₁ B hml hv
  obtain ⟨rfl, hsz, hP, hK, hD0⟩ := hv
  have hx := B.exec
  have hb := B.bytes
  have hr := B.returns
  have hts := atoms_spec (ws := zs_c_X3_init) B.pre
  have hown : s.vm.findClass RX3 = some m.cls := findClass_of_methodNamed B.named
  have hlocks := B.notSynchronized
  have hin : meth.name = "<init>" := (name_of_methodNamed B.named B.method).1
  have hiX3 : ∀ w ∈ wsX30, w ∈ zs_c_X3_init := by decide +kernel
  subst hsz
  have hD := hD0.self (sz := s.heap.size)
  generalize hAe : va_A [(am, .inr (3, [.int 0, .null, .null, .null, .int 0, .int 0, .int 0]))] s.heap.size = A at hD ⊢
  have hA : ∀ q : Nat, s.heap.size ≤ q → A q := fun q h => by rw [← hAe]; exact Or.inr h
  have hS : va_S A s.heap s.heap [] := va_S.rf
  have hl := lv_entry ([.ref am, .int (zi y)]) (n := 3) (Nat.le_of_ble_eq_true rfl)
  rw [lg_entry_eq]
  generalize (lg_sl ([.ref am, .int (zi y)]) ++ List.replicate (3 - (lg_sl ([.ref am, .int (zi y)])).length) Slot.unset).toArray = ls at hl ⊢
  have hl : lv_has ls 3 [(0, .ref am), (1, .int (zi y))] := hl
  refine lv_aload_n hx hb dX3_init_0 rfl (lv_at hl 0 rfl) ?_
  refine W.objInit hx hb hown (hts (.methodLink RX3 3 objectInit) (by decide +kernel)) (hts (.instanceMethod objectInit) (by decide +kernel)) (hts (.code objectInit ⟨#[0xb1]⟩ 1 none) (by decide +kernel)) rfl (by rw [hml]; exact hl.1) rfl dX3_init_1 (Nat.le_of_ble_eq_true rfl) (Nat.le_of_ble_eq_true rfl) ?_
  refine W.eq (g2 := F0 m 4 ls []) rfl ?_
  refine lv_aload_n hx hb dX3_init_4 rfl (lv_at hl 0 rfl) ?_
  refine lv_iload_n hx hb dX3_init_5 rfl (lv_at hl 1 rfl) ?_
  refine va_putF (D := (dC, dI)) (ci := 3) (v := .int (zi y)) (ty := .int) (C := RX3) (T := TX3) (N := 7) hx hb hts hiX3 tyX3 tyX3_ok nmX3 hown hK hP hD hS 0 rfl rfl 0 (by decide) (hts (.fieldLink RX3 9 "Haltingale$Machine" "states" "I") (by decide +kernel)) (fun _ h9 => h9) rfl hin rfl (by decide +kernel) rfl rfl (Nat.le_of_ble_eq_true rfl) dX3_init_6 (fun H locs hP hD hS => ?_)
  have hP : va_P (dC, dI) vwCl [(am, .inr (3, [.int (zi y), .null, .null, .null, .int 0, .int 0, .int 0]))] H := hP
  have hD : va_D A [(am, .inr (3, [.int (zi y), .null, .null, .null, .int 0, .int 0, .int 0]))] := hD
  refine lv_aload_n hx hb dX3_init_9 rfl (lv_at hl 0 rfl) ?_
  refine lv_bipush (v := zi 8) hx hb dX3_init_10 (by decide) ?_
  refine pz_newaI (N' := 8) hx hb (hts (.arrayClass .int) (by decide +kernel)) hK hP hD hS hA (by decide) (by decide) (Nat.le_of_ble_eq_true rfl) (Nat.le_of_ble_eq_true rfl) (Nat.le_of_ble_eq_true rfl) dX3_init_12 (fun q_1 H hP hD hS => ?_)
  have hP : va_P (dC, dI) vwCl [(am, .inr (3, [.int (zi y), .null, .null, .null, .int 0, .int 0, .int 0])), (q_1, .inl (cI, 8, .inl (zf (fun _ => 0))))] H := hP
  have hD : va_D A [(am, .inr (3, [.int (zi y), .null, .null, .null, .int 0, .int 0, .int 0])), (q_1, .inl (cI, 8, .inl (zf (fun _ => 0))))] := hD
  refine W.widen (k := 1) (n := 8) (Nat.le_of_ble_eq_true rfl) (Nat.le_of_ble_eq_true rfl) ?_
  refine va_putF (D := (dC, dI)) (ci := 3) (v := .ref q_1) (ty := .array .int) (C := RX3) (T := TX3) (N := 7) hx hb hts hiX3 tyX3 tyX3_ok nmX3 hown hK hP hD hS 0 rfl rfl 1 (by decide) (hts (.fieldLink RX3 15 "Haltingale$Machine" "writes" "[I") (by decide +kernel)) (fun _ h9 => h9) rfl hin rfl (by decide +kernel) rfl rfl (Nat.le_of_ble_eq_true rfl) dX3_init_14 (fun H locs hP hD hS => ?_)
  have hP : va_P (dC, dI) vwCl [(am, .inr (3, [.int (zi y), .ref q_1, .null, .null, .int 0, .int 0, .int 0])), (q_1, .inl (cI, 8, .inl (zf (fun _ => 0))))] H := hP
  have hD : va_D A [(am, .inr (3, [.int (zi y), .ref q_1, .null, .null, .int 0, .int 0, .int 0])), (q_1, .inl (cI, 8, .inl (zf (fun _ => 0))))] := hD
  refine lv_aload_n hx hb dX3_init_17 rfl (lv_at hl 0 rfl) ?_
  refine lv_bipush (v := zi 8) hx hb dX3_init_18 (by decide) ?_
  refine pz_newaI (N' := 8) hx hb (hts (.arrayClass .int) (by decide +kernel)) hK hP hD hS hA (by decide) (by decide) (Nat.le_of_ble_eq_true rfl) (Nat.le_of_ble_eq_true rfl) (Nat.le_of_ble_eq_true rfl) dX3_init_20 (fun q_2 H hP hD hS => ?_)
  have hP : va_P (dC, dI) vwCl [(am, .inr (3, [.int (zi y), .ref q_1, .null, .null, .int 0, .int 0, .int 0])), (q_1, .inl (cI, 8, .inl (zf (fun _ => 0)))), (q_2, .inl (cI, 8, .inl (zf (fun _ => 0))))] H := hP
  have hD : va_D A [(am, .inr (3, [.int (zi y), .ref q_1, .null, .null, .int 0, .int 0, .int 0])), (q_1, .inl (cI, 8, .inl (zf (fun _ => 0)))), (q_2, .inl (cI, 8, .inl (zf (fun _ => 0))))] := hD
  refine W.widen (k := 2) (n := 16) (Nat.le_of_ble_eq_true rfl) (Nat.le_of_ble_eq_true rfl) ?_
  refine va_putF (D := (dC, dI)) (ci := 3) (v := .ref q_2) (ty := .array .int) (C := RX3) (T := TX3) (N := 7) hx hb hts hiX3 tyX3 tyX3_ok nmX3 hown hK hP hD hS 0 rfl rfl 2 (by decide) (hts (.fieldLink RX3 19 "Haltingale$Machine" "moves" "[I") (by decide +kernel)) (fun _ h9 => h9) rfl hin rfl (by decide +kernel) rfl rfl (Nat.le_of_ble_eq_true rfl) dX3_init_22 (fun H locs hP hD hS => ?_)
  have hP : va_P (dC, dI) vwCl [(am, .inr (3, [.int (zi y), .ref q_1, .ref q_2, .null, .int 0, .int 0, .int 0])), (q_1, .inl (cI, 8, .inl (zf (fun _ => 0)))), (q_2, .inl (cI, 8, .inl (zf (fun _ => 0))))] H := hP
  have hD : va_D A [(am, .inr (3, [.int (zi y), .ref q_1, .ref q_2, .null, .int 0, .int 0, .int 0])), (q_1, .inl (cI, 8, .inl (zf (fun _ => 0)))), (q_2, .inl (cI, 8, .inl (zf (fun _ => 0))))] := hD
  refine lv_aload_n hx hb dX3_init_25 rfl (lv_at hl 0 rfl) ?_
  refine lv_bipush (v := zi 8) hx hb dX3_init_26 (by decide) ?_
  refine pz_newaI (N' := 8) hx hb (hts (.arrayClass .int) (by decide +kernel)) hK hP hD hS hA (by decide) (by decide) (Nat.le_of_ble_eq_true rfl) (Nat.le_of_ble_eq_true rfl) (Nat.le_of_ble_eq_true rfl) dX3_init_28 (fun q_3 H hP hD hS => ?_)
  have hP : va_P (dC, dI) vwCl [(am, .inr (3, [.int (zi y), .ref q_1, .ref q_2, .null, .int 0, .int 0, .int 0])), (q_1, .inl (cI, 8, .inl (zf (fun _ => 0)))), (q_2, .inl (cI, 8, .inl (zf (fun _ => 0)))), (q_3, .inl (cI, 8, .inl (zf (fun _ => 0))))] H := hP
  have hD : va_D A [(am, .inr (3, [.int (zi y), .ref q_1, .ref q_2, .null, .int 0, .int 0, .int 0])), (q_1, .inl (cI, 8, .inl (zf (fun _ => 0)))), (q_2, .inl (cI, 8, .inl (zf (fun _ => 0)))), (q_3, .inl (cI, 8, .inl (zf (fun _ => 0))))] := hD
  refine W.widen (k := 3) (n := 24) (Nat.le_of_ble_eq_true rfl) (Nat.le_of_ble_eq_true rfl) ?_
  refine va_putF (D := (dC, dI)) (ci := 3) (v := .ref q_3) (ty := .array .int) (C := RX3) (T := TX3) (N := 7) hx hb hts hiX3 tyX3 tyX3_ok nmX3 hown hK hP hD hS 0 rfl rfl 3 (by decide) (hts (.fieldLink RX3 22 "Haltingale$Machine" "nexts" "[I") (by decide +kernel)) (fun _ h9 => h9) rfl hin rfl (by decide +kernel) rfl rfl (Nat.le_of_ble_eq_true rfl) dX3_init_30 (fun H locs hP hD hS => ?_)
  have hP : va_P (dC, dI) vwCl [(am, .inr (3, [.int (zi y), .ref q_1, .ref q_2, .ref q_3, .int 0, .int 0, .int 0])), (q_1, .inl (cI, 8, .inl (zf (fun _ => 0)))), (q_2, .inl (cI, 8, .inl (zf (fun _ => 0)))), (q_3, .inl (cI, 8, .inl (zf (fun _ => 0))))] H := hP
  have hD : va_D A [(am, .inr (3, [.int (zi y), .ref q_1, .ref q_2, .ref q_3, .int 0, .int 0, .int 0])), (q_1, .inl (cI, 8, .inl (zf (fun _ => 0)))), (q_2, .inl (cI, 8, .inl (zf (fun _ => 0)))), (q_3, .inl (cI, 8, .inl (zf (fun _ => 0))))] := hD
  refine lv_iconst (v := zi 0) hx hb dX3_init_33 (by decide) ?_
  refine lv_istore_n (lv' := [(2, .int (zi 0)), (0, .ref am), (1, .int (zi y))]) hx hb dX3_init_34 rfl hl (by decide) rfl (fun ls hl => ?_)
  refine pz_loop (fun n H locs ls => ∃ (f1 : Nat → Int) (j : Int) , n = (8 - j).toNat ∧ (0 ≤ j ∧ j ≤ 8) ∧ (∀ c : Nat, (c : Int) < j → f1 c = -1) ∧ va_P (dC, dI) vwCl [(am, .inr (3, [.int (zi y), .ref q_1, .ref q_2, .ref q_3, .int 0, .int 0, .int 0])), (q_1, .inl (cI, 8, .inl (zf f1))), (q_2, .inl (cI, 8, .inl (zf (fun _ => 0)))), (q_3, .inl (cI, 8, .inl (zf (fun _ => 0))))] H ∧ va_D A [(am, .inr (3, [.int (zi y), .ref q_1, .ref q_2, .ref q_3, .int 0, .int 0, .int 0])), (q_1, .inl (cI, 8, .inl (zf f1))), (q_2, .inl (cI, 8, .inl (zf (fun _ => 0)))), (q_3, .inl (cI, 8, .inl (zf (fun _ => 0))))] ∧ va_S A s.heap H locs ∧ lv_has ls 3 [(0, .ref am), (2, .int (zi j))]) (fun n_35 H locs ls hI ih_35 => ?_) _ ⟨fun _ => 0, 0, rfl, (by first | assumption | omega | rfl), fun c hc => absurd hc (by omega), hP, hD, hS, lv_sub hl [1, 0] rfl⟩
  obtain ⟨f1, j, hn_35, hj, hf, hP, hD, hS, hl⟩ := hI
  refine lv_iload_n hx hb dX3_init_35 rfl (lv_at hl 1 rfl) ?_
  refine lv_bipush (v := zi 8) hx hb dX3_init_36 (by decide) ?_
  refine pz_icmp_ge (tgt := 54) hx hb (by omega) dX3_init_38 (by decide) (fun c_4 => ?_) (fun c_4 => ?_)
  · refine lv_aload_n hx hb dX3_init_54 rfl (lv_at hl 0 rfl) ?_
    refine lv_iconst (v := zi (-1)) hx hb dX3_init_55 (by decide) ?_
    refine va_put (D := (dC, dI)) (ci := 3) (v := .int (zi (-1))) (ty := .int) (C := RX3) (T := TX3) (N := 7) hx hb hts hiX3 tyX3 tyX3_ok nmX3 hown hK hP hD hS 0 rfl rfl 4 (by decide) (hts (.fieldLink RX3 25 "Haltingale$Machine" "kind" "I") (by decide +kernel)) (fun _ h9 => h9) rfl (by decide +kernel) rfl rfl (Nat.le_of_ble_eq_true rfl) dX3_init_56 (fun H locs hP hD hS => ?_)
    have hP : va_P (dC, dI) vwCl [(am, .inr (3, [.int (zi y), .ref q_1, .ref q_2, .ref q_3, .int (zi (-1)), .int 0, .int 0])), (q_1, .inl (cI, 8, .inl (zf f1))), (q_2, .inl (cI, 8, .inl (zf (fun _ => 0)))), (q_3, .inl (cI, 8, .inl (zf (fun _ => 0))))] H := hP
    have hD : va_D A [(am, .inr (3, [.int (zi y), .ref q_1, .ref q_2, .ref q_3, .int (zi (-1)), .int 0, .int 0])), (q_1, .inl (cI, 8, .inl (zf f1))), (q_2, .inl (cI, 8, .inl (zf (fun _ => 0)))), (q_3, .inl (cI, 8, .inl (zf (fun _ => 0))))] := hD
    refine lv_aload_n hx hb dX3_init_59 rfl (lv_at hl 0 rfl) ?_
    refine lv_iconst (v := zi (-1)) hx hb dX3_init_60 (by decide) ?_
    refine va_put (D := (dC, dI)) (ci := 3) (v := .int (zi (-1))) (ty := .int) (C := RX3) (T := TX3) (N := 7) hx hb hts hiX3 tyX3 tyX3_ok nmX3 hown hK hP hD hS 0 rfl rfl 5 (by decide) (hts (.fieldLink RX3 28 "Haltingale$Machine" "a" "I") (by decide +kernel)) (fun _ h9 => h9) rfl (by decide +kernel) rfl rfl (Nat.le_of_ble_eq_true rfl) dX3_init_61 (fun H locs hP hD hS => ?_)
    have hP : va_P (dC, dI) vwCl [(am, .inr (3, [.int (zi y), .ref q_1, .ref q_2, .ref q_3, .int (zi (-1)), .int (zi (-1)), .int 0])), (q_1, .inl (cI, 8, .inl (zf f1))), (q_2, .inl (cI, 8, .inl (zf (fun _ => 0)))), (q_3, .inl (cI, 8, .inl (zf (fun _ => 0))))] H := hP
    have hD : va_D A [(am, .inr (3, [.int (zi y), .ref q_1, .ref q_2, .ref q_3, .int (zi (-1)), .int (zi (-1)), .int 0])), (q_1, .inl (cI, 8, .inl (zf f1))), (q_2, .inl (cI, 8, .inl (zf (fun _ => 0)))), (q_3, .inl (cI, 8, .inl (zf (fun _ => 0))))] := hD
    refine lv_aload_n hx hb dX3_init_64 rfl (lv_at hl 0 rfl) ?_
    refine lv_iconst (v := zi (-1)) hx hb dX3_init_65 (by decide) ?_
    refine va_put (D := (dC, dI)) (ci := 3) (v := .int (zi (-1))) (ty := .int) (C := RX3) (T := TX3) (N := 7) hx hb hts hiX3 tyX3 tyX3_ok nmX3 hown hK hP hD hS 0 rfl rfl 6 (by decide) (hts (.fieldLink RX3 31 "Haltingale$Machine" "b" "I") (by decide +kernel)) (fun _ h9 => h9) rfl (by decide +kernel) rfl rfl (Nat.le_of_ble_eq_true rfl) dX3_init_66 (fun H locs hP hD hS => ?_)
    have hP : va_P (dC, dI) vwCl [(am, .inr (3, [.int (zi y), .ref q_1, .ref q_2, .ref q_3, .int (zi (-1)), .int (zi (-1)), .int (zi (-1))])), (q_1, .inl (cI, 8, .inl (zf f1))), (q_2, .inl (cI, 8, .inl (zf (fun _ => 0)))), (q_3, .inl (cI, 8, .inl (zf (fun _ => 0))))] H := hP
    have hD : va_D A [(am, .inr (3, [.int (zi y), .ref q_1, .ref q_2, .ref q_3, .int (zi (-1)), .int (zi (-1)), .int (zi (-1))])), (q_1, .inl (cI, 8, .inl (zf f1))), (q_2, .inl (cI, 8, .inl (zf (fun _ => 0)))), (q_3, .inl (cI, 8, .inl (zf (fun _ => 0))))] := hD
    have hP : va_P (dC, dI) vwCl [(am, .inr (3, [.int (zi (pq_n (y, f1, (fun _ => 0), (fun _ => 0)))), .ref q_1, .ref q_2, .ref q_3, .int (zi (-1)), .int (zi (-1)), .int (zi (-1))])), (q_1, .inl (cI, 8, .inl (zf (pq_w (y, f1, (fun _ => 0), (fun _ => 0)))))), (q_2, .inl (cI, 8, .inl (zf (pq_v (y, f1, (fun _ => 0), (fun _ => 0)))))), (q_3, .inl (cI, 8, .inl (zf (pq_x (y, f1, (fun _ => 0), (fun _ => 0))))))] H := hP
    have hD : va_D A [(am, .inr (3, [.int (zi (pq_n (y, f1, (fun _ => 0), (fun _ => 0)))), .ref q_1, .ref q_2, .ref q_3, .int (zi (-1)), .int (zi (-1)), .int (zi (-1))])), (q_1, .inl (cI, 8, .inl (zf (pq_w (y, f1, (fun _ => 0), (fun _ => 0)))))), (q_2, .inl (cI, 8, .inl (zf (pq_v (y, f1, (fun _ => 0), (fun _ => 0)))))), (q_3, .inl (cI, 8, .inl (zf (pq_x (y, f1, (fun _ => 0), (fun _ => 0))))))] := hD
    refine W.widen (k := 3) (n := 24) (Nat.le_of_ble_eq_true rfl) (Nat.le_of_ble_eq_true rfl) ?_
    exact W.vret hx hb hr (fun t ht hW => ⟨⟨(), rfl, trivial, ⟨q_1, q_2, q_3, (y, f1, (fun _ => 0), (fun _ => 0)), ⟨rfl, fun c hc => hf c (by omega)⟩, by rw [ht]; exact hP, va_K.moved hW.alike hK, hD⟩⟩, hS.F ht⟩) hS.2.2 dX3_init_69
  · refine lv_aload_n hx hb dX3_init_41 rfl (lv_at hl 0 rfl) ?_
    refine va_get (D := (dC, dI)) (ci := 3) (v := .ref q_1) (C := RX3) (T := TX3) (N := 7) hx hb hts hiX3 hown hK hP 0 rfl rfl 1 (by decide) (hts (.fieldLink RX3 15 "Haltingale$Machine" "writes" "[I") (by decide +kernel)) (fun _ h9 => h9) rfl dX3_init_42 ?_
    refine lv_iload_n hx hb dX3_init_45 rfl (lv_at hl 1 rfl) ?_
    refine lv_iconst (v := zi (-1)) hx hb dX3_init_46 (by decide) ?_
    refine pz_iast hx hb hK hP hD hS 1 0 rfl rfl (i := j) (x := -1) (by omega) dX3_init_47 (fun H locs hP hD hS => ?_)
    have hP : va_P (dC, dI) vwCl [(am, .inr (3, [.int (zi y), .ref q_1, .ref q_2, .ref q_3, .int 0, .int 0, .int 0])), (q_1, .inl (cI, 8, .inl (zf (pz_u f1 j.toNat (-1))))), (q_2, .inl (cI, 8, .inl (zf (fun _ => 0)))), (q_3, .inl (cI, 8, .inl (zf (fun _ => 0))))] H := hP
    have hD : va_D A [(am, .inr (3, [.int (zi y), .ref q_1, .ref q_2, .ref q_3, .int 0, .int 0, .int 0])), (q_1, .inl (cI, 8, .inl (zf (pz_u f1 j.toNat (-1))))), (q_2, .inl (cI, 8, .inl (zf (fun _ => 0)))), (q_3, .inl (cI, 8, .inl (zf (fun _ => 0))))] := hD
    refine pz_iinc (lv' := [(2, .int (zi (j + 1))), (0, .ref am)]) hx hb dX3_init_48 hl (k := 1) rfl (by decide) rfl (fun ls hl => ?_)
    refine lv_goto (tgt := 35) hx hb dX3_init_51 (by decide) ?_
    exact ih_35 _ _ _ _ ⟨pz_u f1 j.toNat (-1), j + 1, rfl, (by first | assumption | omega | rfl), fun c hc => pz_u1 hj.1 hf hc, hP, hD, hS, lv_sub hl [1, 0] rfl⟩ (by omega)
