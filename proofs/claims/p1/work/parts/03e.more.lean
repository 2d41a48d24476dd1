def zs_c_X3_init : List Cond := .code yX3_init cX3_init 3 none :: (([.methodLink RX3 3 objectInit, .instanceMethod objectInit, .code objectInit ⟨#[0xb1]⟩ 1 none, .fieldLink RX3 9 "Haltingale$Machine" "states" "I", .arrayClass .int, .fieldLink RX3 15 "Haltingale$Machine" "writes" "[I", .fieldLink RX3 19 "Haltingale$Machine" "moves" "[I", .fieldLink RX3 22 "Haltingale$Machine" "nexts" "[I", .fieldLink RX3 25 "Haltingale$Machine" "kind" "I", .fieldLink RX3 28 "Haltingale$Machine" "a" "I", .fieldLink RX3 31 "Haltingale$Machine" "b" "I"] : List Cond) ++ wsX30)
set_option maxHeartbeats 4000000 in
set_option maxRecDepth 100000 in
/-- Machine(states) -/
theorem c_X3_init (l : Launch) (hnt : l.stackTraces = false) (dC : Nat → ClassId) (dI : Nat → Nat → Nat) (a0 : Nat) (h0 : Nat) (p0 : Int32) (sz : Nat)  : Met l yX3_init zs_c_X3_init ({ frames := 1, cells := 3, slots := 24, locals := 12 }) (va_Pc [.ref h0, .int p0] (fun U => U.heap.size = sz ∧ va_P (dC, dI) vwCl [(h0, .inr (5, [.int 0, .null, .null, .null, .int 0, .int 0, .int 0]))] U.heap ∧ va_K (dC, dI) vwCl [] U ∧ va_D (fun _ => True) [(h0, .inr (5, [.int 0, .null, .null, .null, .int 0, .int 0, .int 0]))] ∧ zB a0 (va_A [(h0, .inr (5, [.int 0, .null, .null, .null, .int 0, .int 0, .int 0]))] sz) U U.heap)) (va_Qv (fun _ : Unit => True) (fun _ t => ∃ (w1 : Nat) (w2 : Nat) (w3 : Nat), va_P (dC, dI) vwCl [(h0, .inr (5, [.int p0, .ref w1, .ref w2, .ref w3, .int (-1), .int (-1), .int (-1)]))] t.heap ∧ va_K (dC, dI) vwCl [] t ∧ va_D (va_A [(h0, .inr (5, [.int 0, .null, .null, .null, .int 0, .int 0, .int 0]))] sz) [(h0, .inr (5, [.int p0, .ref w1, .ref w2, .ref w3, .int (-1), .int (-1), .int (-1)]))]) (va_A [(h0, .inr (5, [.int 0, .null, .null, .null, .int 0, .int 0, .int 0]))] sz)) 3 24 (va_A [(h0, .inr (5, [.int 0, .null, .null, .null, .int 0, .int 0, .int 0]))] sz) := by
  refine Met.ofW (cc := cX3_init) (maxL := 3) (ret := none) (by decide) rfl ?_
  intro p e s m args below meth c s₁ B hml hv
  obtain ⟨rfl, hsz, hP, hK, hD0, hZ⟩ := hv
  have hx := B.exec
  have hb := B.bytes
  have hr := B.returns
  have hts := atoms_spec (ws := zs_c_X3_init) B.pre
  have hown : s.vm.findClass RX3 = some m.cls := findClass_of_methodNamed B.named
  have hlocks := B.notSynchronized
  have hin : meth.name = "<init>" := (name_of_methodNamed B.named B.method).1
  have hiX3 : ∀ w ∈ wsX30, w ∈ zs_c_X3_init := by decide +kernel
  subst hsz
  have hD := hD0.self (sz := s.heap.size)
  generalize hAe : va_A [(h0, .inr (5, [.int 0, .null, .null, .null, .int 0, .int 0, .int 0]))] s.heap.size = A at hD hZ ⊢
  have hA : ∀ q : Nat, s.heap.size ≤ q → A q := fun q h => by rw [← hAe]; exact Or.inr h
  have hS : va_S A s.heap s.heap [] := va_S.rf
  have hl := lv_entry ([.ref h0, .int p0]) (n := 3) (Nat.le_of_ble_eq_true rfl)
  rw [lg_entry_eq]
  generalize (lg_sl ([.ref h0, .int p0]) ++ List.replicate (3 - (lg_sl ([.ref h0, .int p0])).length) Slot.unset).toArray = ls at hl ⊢
  have hl : lv_has ls 3 [(0, .ref h0), (1, .int p0)] := hl
  refine lv_aload_n hx hb dX3_init_0 rfl (lv_at hl 0 rfl) ?_
  refine W.objInit hx hb hown (hts (.methodLink RX3 3 objectInit) (by decide +kernel)) (hts (.instanceMethod objectInit) (by decide +kernel)) (hts (.code objectInit ⟨#[0xb1]⟩ 1 none) (by decide +kernel)) rfl (by rw [hml]; exact hl.1) rfl dX3_init_1 (Nat.le_of_ble_eq_true rfl) (Nat.le_of_ble_eq_true rfl) ?_
  refine W.eq (g2 := F0 m 4 ls []) rfl ?_
  refine lv_aload_n hx hb dX3_init_4 rfl (lv_at hl 0 rfl) ?_
  refine lv_iload_n hx hb dX3_init_5 rfl (lv_at hl 1 rfl) ?_
  refine va_putF (D := (dC, dI)) (ci := 5) (v := .int p0) (ty := .int) (C := RX3) (T := TX3) (N := 7) hx hb hts hiX3 tyX3 tyX3_ok nmX3 hown hK hP hD hS 0 rfl rfl 0 (by decide) (hts (.fieldLink RX3 9 "Haltingale$Machine" "states" "I") (by decide +kernel)) (fun _ h9 => h9) rfl hin rfl (by decide +kernel) rfl rfl (Nat.le_of_ble_eq_true rfl) dX3_init_6 (fun H locs hP hD hS => ?_)
  have hP : va_P (dC, dI) vwCl [(h0, .inr (5, [.int p0, .null, .null, .null, .int 0, .int 0, .int 0]))] H := hP
  have hD : va_D A [(h0, .inr (5, [.int p0, .null, .null, .null, .int 0, .int 0, .int 0]))] := hD
  refine lv_aload_n hx hb dX3_init_9 rfl (lv_at hl 0 rfl) ?_
  refine lv_bipush (v := 8) hx hb dX3_init_10 (by decide) ?_
  refine va_newa (atype := .int) (ty := .int) (N' := 8) (a0 := (8, .inl (fun _ => 0))) hx hb (hts (.arrayClass .int) (by decide +kernel)) rfl hK hP hD hS hA (fun _ => rfl) (by decide) (by decide) (Nat.le_of_ble_eq_true rfl) (Nat.le_of_ble_eq_true rfl) (Nat.le_of_ble_eq_true rfl) dX3_init_12 (fun q_1 cy_2 H hK hP hD hS => ?_)
  have hK : va_K (dC, dI) vwCl [(cy_2, .int)] s := hK
  have hP : va_P (dC, dI) vwCl [(h0, .inr (5, [.int p0, .null, .null, .null, .int 0, .int 0, .int 0])), (q_1, .inl (cy_2, 8, .inl (fun _ => 0)))] H := hP
  have hD : va_D A [(h0, .inr (5, [.int p0, .null, .null, .null, .int 0, .int 0, .int 0])), (q_1, .inl (cy_2, 8, .inl (fun _ => 0)))] := hD
  refine W.widen (k := 1) (n := 8) (Nat.le_of_ble_eq_true rfl) (Nat.le_of_ble_eq_true rfl) ?_
  refine va_putF (D := (dC, dI)) (ci := 5) (v := .ref q_1) (ty := .array .int) (C := RX3) (T := TX3) (N := 7) hx hb hts hiX3 tyX3 tyX3_ok nmX3 hown hK hP hD hS 0 rfl rfl 1 (by decide) (hts (.fieldLink RX3 15 "Haltingale$Machine" "writes" "[I") (by decide +kernel)) (fun _ h9 => h9) rfl hin rfl (by decide +kernel) rfl rfl (Nat.le_of_ble_eq_true rfl) dX3_init_14 (fun H locs hP hD hS => ?_)
  have hP : va_P (dC, dI) vwCl [(h0, .inr (5, [.int p0, .ref q_1, .null, .null, .int 0, .int 0, .int 0])), (q_1, .inl (cy_2, 8, .inl (fun _ => 0)))] H := hP
  have hD : va_D A [(h0, .inr (5, [.int p0, .ref q_1, .null, .null, .int 0, .int 0, .int 0])), (q_1, .inl (cy_2, 8, .inl (fun _ => 0)))] := hD
  refine lv_aload_n hx hb dX3_init_17 rfl (lv_at hl 0 rfl) ?_
  refine lv_bipush (v := 8) hx hb dX3_init_18 (by decide) ?_
  refine va_newa (atype := .int) (ty := .int) (N' := 8) (a0 := (8, .inl (fun _ => 0))) hx hb (hts (.arrayClass .int) (by decide +kernel)) rfl hK hP hD hS hA (fun _ => rfl) (by decide) (by decide) (Nat.le_of_ble_eq_true rfl) (Nat.le_of_ble_eq_true rfl) (Nat.le_of_ble_eq_true rfl) dX3_init_20 (fun q_3 cy_4 H hK hP hD hS => ?_)
  have hK : va_K (dC, dI) vwCl [(cy_2, .int), (cy_4, .int)] s := hK
  have hP : va_P (dC, dI) vwCl [(h0, .inr (5, [.int p0, .ref q_1, .null, .null, .int 0, .int 0, .int 0])), (q_1, .inl (cy_2, 8, .inl (fun _ => 0))), (q_3, .inl (cy_4, 8, .inl (fun _ => 0)))] H := hP
  have hD : va_D A [(h0, .inr (5, [.int p0, .ref q_1, .null, .null, .int 0, .int 0, .int 0])), (q_1, .inl (cy_2, 8, .inl (fun _ => 0))), (q_3, .inl (cy_4, 8, .inl (fun _ => 0)))] := hD
  refine W.widen (k := 2) (n := 16) (Nat.le_of_ble_eq_true rfl) (Nat.le_of_ble_eq_true rfl) ?_
  refine va_putF (D := (dC, dI)) (ci := 5) (v := .ref q_3) (ty := .array .int) (C := RX3) (T := TX3) (N := 7) hx hb hts hiX3 tyX3 tyX3_ok nmX3 hown hK hP hD hS 0 rfl rfl 2 (by decide) (hts (.fieldLink RX3 19 "Haltingale$Machine" "moves" "[I") (by decide +kernel)) (fun _ h9 => h9) rfl hin rfl (by decide +kernel) rfl rfl (Nat.le_of_ble_eq_true rfl) dX3_init_22 (fun H locs hP hD hS => ?_)
  have hP : va_P (dC, dI) vwCl [(h0, .inr (5, [.int p0, .ref q_1, .ref q_3, .null, .int 0, .int 0, .int 0])), (q_1, .inl (cy_2, 8, .inl (fun _ => 0))), (q_3, .inl (cy_4, 8, .inl (fun _ => 0)))] H := hP
  have hD : va_D A [(h0, .inr (5, [.int p0, .ref q_1, .ref q_3, .null, .int 0, .int 0, .int 0])), (q_1, .inl (cy_2, 8, .inl (fun _ => 0))), (q_3, .inl (cy_4, 8, .inl (fun _ => 0)))] := hD
  refine lv_aload_n hx hb dX3_init_25 rfl (lv_at hl 0 rfl) ?_
  refine lv_bipush (v := 8) hx hb dX3_init_26 (by decide) ?_
  refine va_newa (atype := .int) (ty := .int) (N' := 8) (a0 := (8, .inl (fun _ => 0))) hx hb (hts (.arrayClass .int) (by decide +kernel)) rfl hK hP hD hS hA (fun _ => rfl) (by decide) (by decide) (Nat.le_of_ble_eq_true rfl) (Nat.le_of_ble_eq_true rfl) (Nat.le_of_ble_eq_true rfl) dX3_init_28 (fun q_5 cy_6 H hK hP hD hS => ?_)
  have hK : va_K (dC, dI) vwCl [(cy_2, .int), (cy_4, .int), (cy_6, .int)] s := hK
  have hP : va_P (dC, dI) vwCl [(h0, .inr (5, [.int p0, .ref q_1, .ref q_3, .null, .int 0, .int 0, .int 0])), (q_1, .inl (cy_2, 8, .inl (fun _ => 0))), (q_3, .inl (cy_4, 8, .inl (fun _ => 0))), (q_5, .inl (cy_6, 8, .inl (fun _ => 0)))] H := hP
  have hD : va_D A [(h0, .inr (5, [.int p0, .ref q_1, .ref q_3, .null, .int 0, .int 0, .int 0])), (q_1, .inl (cy_2, 8, .inl (fun _ => 0))), (q_3, .inl (cy_4, 8, .inl (fun _ => 0))), (q_5, .inl (cy_6, 8, .inl (fun _ => 0)))] := hD
  refine W.widen (k := 3) (n := 24) (Nat.le_of_ble_eq_true rfl) (Nat.le_of_ble_eq_true rfl) ?_
  refine va_putF (D := (dC, dI)) (ci := 5) (v := .ref q_5) (ty := .array .int) (C := RX3) (T := TX3) (N := 7) hx hb hts hiX3 tyX3 tyX3_ok nmX3 hown hK hP hD hS 0 rfl rfl 3 (by decide) (hts (.fieldLink RX3 22 "Haltingale$Machine" "nexts" "[I") (by decide +kernel)) (fun _ h9 => h9) rfl hin rfl (by decide +kernel) rfl rfl (Nat.le_of_ble_eq_true rfl) dX3_init_30 (fun H locs hP hD hS => ?_)
  have hP : va_P (dC, dI) vwCl [(h0, .inr (5, [.int p0, .ref q_1, .ref q_3, .ref q_5, .int 0, .int 0, .int 0])), (q_1, .inl (cy_2, 8, .inl (fun _ => 0))), (q_3, .inl (cy_4, 8, .inl (fun _ => 0))), (q_5, .inl (cy_6, 8, .inl (fun _ => 0)))] H := hP
  have hD : va_D A [(h0, .inr (5, [.int p0, .ref q_1, .ref q_3, .ref q_5, .int 0, .int 0, .int 0])), (q_1, .inl (cy_2, 8, .inl (fun _ => 0))), (q_3, .inl (cy_4, 8, .inl (fun _ => 0))), (q_5, .inl (cy_6, 8, .inl (fun _ => 0)))] := hD
  refine lv_iconst (v := 0) hx hb dX3_init_33 (by decide) ?_
  refine lv_istore_n (lv' := [(2, .int 0), (0, .ref h0), (1, .int p0)]) hx hb dX3_init_34 rfl hl (by decide) rfl (fun ls hl => ?_)
  refine lv_iload_n hx hb dX3_init_35 rfl (lv_at hl 0 rfl) ?_
  refine lv_bipush (v := 8) hx hb dX3_init_36 (by decide) ?_
  refine lv_icmp_ge (tgt := 54) hx hb dX3_init_38 (by decide) (fun c_7 => ?_) (fun c_7 => ?_)
  · (first | exact absurd c_7 (by decide) | exact absurd (by decide) c_7)
  refine lv_aload_n hx hb dX3_init_41 rfl (lv_at hl 1 rfl) ?_
  refine va_get (D := (dC, dI)) (ci := 5) (v := .ref q_1) (C := RX3) (T := TX3) (N := 7) hx hb hts hiX3 hown hK hP 0 rfl rfl 1 (by decide) (hts (.fieldLink RX3 15 "Haltingale$Machine" "writes" "[I") (by decide +kernel)) (fun _ h9 => h9) rfl dX3_init_42 ?_
  refine lv_iload_n hx hb dX3_init_45 rfl (lv_at hl 0 rfl) ?_
  refine lv_iconst (v := (-1)) hx hb dX3_init_46 (by decide) ?_
  refine va_iast hx hb hK hP hD hS 1 0 rfl rfl (by unfold vp_in; decide) dX3_init_47 (fun H locs hP hD hS => ?_)
  have hP : va_P (dC, dI) vwCl [(h0, .inr (5, [.int p0, .ref q_1, .ref q_3, .ref q_5, .int 0, .int 0, .int 0])), (q_1, .inl (cy_2, 8, .inl (upd (fun _ => 0) ((0 : Int32).toNatClampNeg) (-1)))), (q_3, .inl (cy_4, 8, .inl (fun _ => 0))), (q_5, .inl (cy_6, 8, .inl (fun _ => 0)))] H := hP
  have hD : va_D A [(h0, .inr (5, [.int p0, .ref q_1, .ref q_3, .ref q_5, .int 0, .int 0, .int 0])), (q_1, .inl (cy_2, 8, .inl (upd (fun _ => 0) ((0 : Int32).toNatClampNeg) (-1)))), (q_3, .inl (cy_4, 8, .inl (fun _ => 0))), (q_5, .inl (cy_6, 8, .inl (fun _ => 0)))] := hD
  refine lv_iinc (v := 1) (lv' := [(2, .int 1), (0, .ref h0), (1, .int p0)]) hx hb dX3_init_48 hl (k := 0) rfl (by decide) (by decide) rfl (fun ls hl => ?_)
  refine lv_goto (tgt := 35) hx hb dX3_init_51 (by decide) ?_
  refine lv_iload_n hx hb dX3_init_35 rfl (lv_at hl 0 rfl) ?_
  refine lv_bipush (v := 8) hx hb dX3_init_36 (by decide) ?_
  refine lv_icmp_ge (tgt := 54) hx hb dX3_init_38 (by decide) (fun c_9 => ?_) (fun c_9 => ?_)
  · (first | exact absurd c_9 (by decide) | exact absurd (by decide) c_9)
  refine lv_aload_n hx hb dX3_init_41 rfl (lv_at hl 1 rfl) ?_
  refine va_get (D := (dC, dI)) (ci := 5) (v := .ref q_1) (C := RX3) (T := TX3) (N := 7) hx hb hts hiX3 hown hK hP 0 rfl rfl 1 (by decide) (hts (.fieldLink RX3 15 "Haltingale$Machine" "writes" "[I") (by decide +kernel)) (fun _ h9 => h9) rfl dX3_init_42 ?_
  refine lv_iload_n hx hb dX3_init_45 rfl (lv_at hl 0 rfl) ?_
  refine lv_iconst (v := (-1)) hx hb dX3_init_46 (by decide) ?_
  refine va_iast hx hb hK hP hD hS 1 0 rfl rfl (by unfold vp_in; decide) dX3_init_47 (fun H locs hP hD hS => ?_)
  have hP : va_P (dC, dI) vwCl [(h0, .inr (5, [.int p0, .ref q_1, .ref q_3, .ref q_5, .int 0, .int 0, .int 0])), (q_1, .inl (cy_2, 8, .inl (upd (upd (fun _ => 0) ((0 : Int32).toNatClampNeg) (-1)) ((1 : Int32).toNatClampNeg) (-1)))), (q_3, .inl (cy_4, 8, .inl (fun _ => 0))), (q_5, .inl (cy_6, 8, .inl (fun _ => 0)))] H := hP
  have hD : va_D A [(h0, .inr (5, [.int p0, .ref q_1, .ref q_3, .ref q_5, .int 0, .int 0, .int 0])), (q_1, .inl (cy_2, 8, .inl (upd (upd (fun _ => 0) ((0 : Int32).toNatClampNeg) (-1)) ((1 : Int32).toNatClampNeg) (-1)))), (q_3, .inl (cy_4, 8, .inl (fun _ => 0))), (q_5, .inl (cy_6, 8, .inl (fun _ => 0)))] := hD
  refine lv_iinc (v := 2) (lv' := [(2, .int 2), (0, .ref h0), (1, .int p0)]) hx hb dX3_init_48 hl (k := 0) rfl (by decide) (by decide) rfl (fun ls hl => ?_)
  refine lv_goto (tgt := 35) hx hb dX3_init_51 (by decide) ?_
  refine lv_iload_n hx hb dX3_init_35 rfl (lv_at hl 0 rfl) ?_
  refine lv_bipush (v := 8) hx hb dX3_init_36 (by decide) ?_
  refine lv_icmp_ge (tgt := 54) hx hb dX3_init_38 (by decide) (fun c_11 => ?_) (fun c_11 => ?_)
  · (first | exact absurd c_11 (by decide) | exact absurd (by decide) c_11)
  refine lv_aload_n hx hb dX3_init_41 rfl (lv_at hl 1 rfl) ?_
  refine va_get (D := (dC, dI)) (ci := 5) (v := .ref q_1) (C := RX3) (T := TX3) (N := 7) hx hb hts hiX3 hown hK hP 0 rfl rfl 1 (by decide) (hts (.fieldLink RX3 15 "Haltingale$Machine" "writes" "[I") (by decide +kernel)) (fun _ h9 => h9) rfl dX3_init_42 ?_
  refine lv_iload_n hx hb dX3_init_45 rfl (lv_at hl 0 rfl) ?_
  refine lv_iconst (v := (-1)) hx hb dX3_init_46 (by decide) ?_
  refine va_iast hx hb hK hP hD hS 1 0 rfl rfl (by unfold vp_in; decide) dX3_init_47 (fun H locs hP hD hS => ?_)
  have hP : va_P (dC, dI) vwCl [(h0, .inr (5, [.int p0, .ref q_1, .ref q_3, .ref q_5, .int 0, .int 0, .int 0])), (q_1, .inl (cy_2, 8, .inl (upd (upd (upd (fun _ => 0) ((0 : Int32).toNatClampNeg) (-1)) ((1 : Int32).toNatClampNeg) (-1)) ((2 : Int32).toNatClampNeg) (-1)))), (q_3, .inl (cy_4, 8, .inl (fun _ => 0))), (q_5, .inl (cy_6, 8, .inl (fun _ => 0)))] H := hP
  have hD : va_D A [(h0, .inr (5, [.int p0, .ref q_1, .ref q_3, .ref q_5, .int 0, .int 0, .int 0])), (q_1, .inl (cy_2, 8, .inl (upd (upd (upd (fun _ => 0) ((0 : Int32).toNatClampNeg) (-1)) ((1 : Int32).toNatClampNeg) (-1)) ((2 : Int32).toNatClampNeg) (-1)))), (q_3, .inl (cy_4, 8, .inl (fun _ => 0))), (q_5, .inl (cy_6, 8, .inl (fun _ => 0)))] := hD
  refine lv_iinc (v := 3) (lv' := [(2, .int 3), (0, .ref h0), (1, .int p0)]) hx hb dX3_init_48 hl (k := 0) rfl (by decide) (by decide) rfl (fun ls hl => ?_)
  refine lv_goto (tgt := 35) hx hb dX3_init_51 (by decide) ?_
  refine lv_iload_n hx hb dX3_init_35 rfl (lv_at hl 0 rfl) ?_
  refine lv_bipush (v := 8) hx hb dX3_init_36 (by decide) ?_
  refine lv_icmp_ge (tgt := 54) hx hb dX3_init_38 (by decide) (fun c_13 => ?_) (fun c_13 => ?_)
  · (first | exact absurd c_13 (by decide) | exact absurd (by decide) c_13)
  refine lv_aload_n hx hb dX3_init_41 rfl (lv_at hl 1 rfl) ?_
  refine va_get (D := (dC, dI)) (ci := 5) (v := .ref q_1) (C := RX3) (T := TX3) (N := 7) hx hb hts hiX3 hown hK hP 0 rfl rfl 1 (by decide) (hts (.fieldLink RX3 15 "Haltingale$Machine" "writes" "[I") (by decide +kernel)) (fun _ h9 => h9) rfl dX3_init_42 ?_
  refine lv_iload_n hx hb dX3_init_45 rfl (lv_at hl 0 rfl) ?_
  refine lv_iconst (v := (-1)) hx hb dX3_init_46 (by decide) ?_
  refine va_iast hx hb hK hP hD hS 1 0 rfl rfl (by unfold vp_in; decide) dX3_init_47 (fun H locs hP hD hS => ?_)
  have hP : va_P (dC, dI) vwCl [(h0, .inr (5, [.int p0, .ref q_1, .ref q_3, .ref q_5, .int 0, .int 0, .int 0])), (q_1, .inl (cy_2, 8, .inl (upd (upd (upd (upd (fun _ => 0) ((0 : Int32).toNatClampNeg) (-1)) ((1 : Int32).toNatClampNeg) (-1)) ((2 : Int32).toNatClampNeg) (-1)) ((3 : Int32).toNatClampNeg) (-1)))), (q_3, .inl (cy_4, 8, .inl (fun _ => 0))), (q_5, .inl (cy_6, 8, .inl (fun _ => 0)))] H := hP
  have hD : va_D A [(h0, .inr (5, [.int p0, .ref q_1, .ref q_3, .ref q_5, .int 0, .int 0, .int 0])), (q_1, .inl (cy_2, 8, .inl (upd (upd (upd (upd (fun _ => 0) ((0 : Int32).toNatClampNeg) (-1)) ((1 : Int32).toNatClampNeg) (-1)) ((2 : Int32).toNatClampNeg) (-1)) ((3 : Int32).toNatClampNeg) (-1)))), (q_3, .inl (cy_4, 8, .inl (fun _ => 0))), (q_5, .inl (cy_6, 8, .inl (fun _ => 0)))] := hD
  refine lv_iinc (v := 4) (lv' := [(2, .int 4), (0, .ref h0), (1, .int p0)]) hx hb dX3_init_48 hl (k := 0) rfl (by decide) (by decide) rfl (fun ls hl => ?_)
  refine lv_goto (tgt := 35) hx hb dX3_init_51 (by decide) ?_
  refine lv_iload_n hx hb dX3_init_35 rfl (lv_at hl 0 rfl) ?_
  refine lv_bipush (v := 8) hx hb dX3_init_36 (by decide) ?_
  refine lv_icmp_ge (tgt := 54) hx hb dX3_init_38 (by decide) (fun c_15 => ?_) (fun c_15 => ?_)
  · (first | exact absurd c_15 (by decide) | exact absurd (by decide) c_15)
  refine lv_aload_n hx hb dX3_init_41 rfl (lv_at hl 1 rfl) ?_
  refine va_get (D := (dC, dI)) (ci := 5) (v := .ref q_1) (C := RX3) (T := TX3) (N := 7) hx hb hts hiX3 hown hK hP 0 rfl rfl 1 (by decide) (hts (.fieldLink RX3 15 "Haltingale$Machine" "writes" "[I") (by decide +kernel)) (fun _ h9 => h9) rfl dX3_init_42 ?_
  refine lv_iload_n hx hb dX3_init_45 rfl (lv_at hl 0 rfl) ?_
  refine lv_iconst (v := (-1)) hx hb dX3_init_46 (by decide) ?_
  refine va_iast hx hb hK hP hD hS 1 0 rfl rfl (by unfold vp_in; decide) dX3_init_47 (fun H locs hP hD hS => ?_)
  have hP : va_P (dC, dI) vwCl [(h0, .inr (5, [.int p0, .ref q_1, .ref q_3, .ref q_5, .int 0, .int 0, .int 0])), (q_1, .inl (cy_2, 8, .inl (upd (upd (upd (upd (upd (fun _ => 0) ((0 : Int32).toNatClampNeg) (-1)) ((1 : Int32).toNatClampNeg) (-1)) ((2 : Int32).toNatClampNeg) (-1)) ((3 : Int32).toNatClampNeg) (-1)) ((4 : Int32).toNatClampNeg) (-1)))), (q_3, .inl (cy_4, 8, .inl (fun _ => 0))), (q_5, .inl (cy_6, 8, .inl (fun _ => 0)))] H := hP
  have hD : va_D A [(h0, .inr (5, [.int p0, .ref q_1, .ref q_3, .ref q_5, .int 0, .int 0, .int 0])), (q_1, .inl (cy_2, 8, .inl (upd (upd (upd (upd (upd (fun _ => 0) ((0 : Int32).toNatClampNeg) (-1)) ((1 : Int32).toNatClampNeg) (-1)) ((2 : Int32).toNatClampNeg) (-1)) ((3 : Int32).toNatClampNeg) (-1)) ((4 : Int32).toNatClampNeg) (-1)))), (q_3, .inl (cy_4, 8, .inl (fun _ => 0))), (q_5, .inl (cy_6, 8, .inl (fun _ => 0)))] := hD
  refine lv_iinc (v := 5) (lv' := [(2, .int 5), (0, .ref h0), (1, .int p0)]) hx hb dX3_init_48 hl (k := 0) rfl (by decide) (by decide) rfl (fun ls hl => ?_)
  refine lv_goto (tgt := 35) hx hb dX3_init_51 (by decide) ?_
  refine lv_iload_n hx hb dX3_init_35 rfl (lv_at hl 0 rfl) ?_
  refine lv_bipush (v := 8) hx hb dX3_init_36 (by decide) ?_
  refine lv_icmp_ge (tgt := 54) hx hb dX3_init_38 (by decide) (fun c_17 => ?_) (fun c_17 => ?_)
  · (first | exact absurd c_17 (by decide) | exact absurd (by decide) c_17)
  refine lv_aload_n hx hb dX3_init_41 rfl (lv_at hl 1 rfl) ?_
  refine va_get (D := (dC, dI)) (ci := 5) (v := .ref q_1) (C := RX3) (T := TX3) (N := 7) hx hb hts hiX3 hown hK hP 0 rfl rfl 1 (by decide) (hts (.fieldLink RX3 15 "Haltingale$Machine" "writes" "[I") (by decide +kernel)) (fun _ h9 => h9) rfl dX3_init_42 ?_
  refine lv_iload_n hx hb dX3_init_45 rfl (lv_at hl 0 rfl) ?_
  refine lv_iconst (v := (-1)) hx hb dX3_init_46 (by decide) ?_
  refine va_iast hx hb hK hP hD hS 1 0 rfl rfl (by unfold vp_in; decide) dX3_init_47 (fun H locs hP hD hS => ?_)
  have hP : va_P (dC, dI) vwCl [(h0, .inr (5, [.int p0, .ref q_1, .ref q_3, .ref q_5, .int 0, .int 0, .int 0])), (q_1, .inl (cy_2, 8, .inl (upd (upd (upd (upd (upd (upd (fun _ => 0) ((0 : Int32).toNatClampNeg) (-1)) ((1 : Int32).toNatClampNeg) (-1)) ((2 : Int32).toNatClampNeg) (-1)) ((3 : Int32).toNatClampNeg) (-1)) ((4 : Int32).toNatClampNeg) (-1)) ((5 : Int32).toNatClampNeg) (-1)))), (q_3, .inl (cy_4, 8, .inl (fun _ => 0))), (q_5, .inl (cy_6, 8, .inl (fun _ => 0)))] H := hP
  have hD : va_D A [(h0, .inr (5, [.int p0, .ref q_1, .ref q_3, .ref q_5, .int 0, .int 0, .int 0])), (q_1, .inl (cy_2, 8, .inl (upd (upd (upd (upd (upd (upd (fun _ => 0) ((0 : Int32).toNatClampNeg) (-1)) ((1 : Int32).toNatClampNeg) (-1)) ((2 : Int32).toNatClampNeg) (-1)) ((3 : Int32).toNatClampNeg) (-1)) ((4 : Int32).toNatClampNeg) (-1)) ((5 : Int32).toNatClampNeg) (-1)))), (q_3, .inl (cy_4, 8, .inl (fun _ => 0))), (q_5, .inl (cy_6, 8, .inl (fun _ => 0)))] := hD
  refine lv_iinc (v := 6) (lv' := [(2, .int 6), (0, .ref h0), (1, .int p0)]) hx hb dX3_init_48 hl (k := 0) rfl (by decide) (by decide) rfl (fun ls hl => ?_)
  refine lv_goto (tgt := 35) hx hb dX3_init_51 (by decide) ?_
  refine lv_iload_n hx hb dX3_init_35 rfl (lv_at hl 0 rfl) ?_
  refine lv_bipush (v := 8) hx hb dX3_init_36 (by decide) ?_
  refine lv_icmp_ge (tgt := 54) hx hb dX3_init_38 (by decide) (fun c_19 => ?_) (fun c_19 => ?_)
  · (first | exact absurd c_19 (by decide) | exact absurd (by decide) c_19)
  refine lv_aload_n hx hb dX3_init_41 rfl (lv_at hl 1 rfl) ?_
  refine va_get (D := (dC, dI)) (ci := 5) (v := .ref q_1) (C := RX3) (T := TX3) (N := 7) hx hb hts hiX3 hown hK hP 0 rfl rfl 1 (by decide) (hts (.fieldLink RX3 15 "Haltingale$Machine" "writes" "[I") (by decide +kernel)) (fun _ h9 => h9) rfl dX3_init_42 ?_
  refine lv_iload_n hx hb dX3_init_45 rfl (lv_at hl 0 rfl) ?_
  refine lv_iconst (v := (-1)) hx hb dX3_init_46 (by decide) ?_
  refine va_iast hx hb hK hP hD hS 1 0 rfl rfl (by unfold vp_in; decide) dX3_init_47 (fun H locs hP hD hS => ?_)
  have hP : va_P (dC, dI) vwCl [(h0, .inr (5, [.int p0, .ref q_1, .ref q_3, .ref q_5, .int 0, .int 0, .int 0])), (q_1, .inl (cy_2, 8, .inl (upd (upd (upd (upd (upd (upd (upd (fun _ => 0) ((0 : Int32).toNatClampNeg) (-1)) ((1 : Int32).toNatClampNeg) (-1)) ((2 : Int32).toNatClampNeg) (-1)) ((3 : Int32).toNatClampNeg) (-1)) ((4 : Int32).toNatClampNeg) (-1)) ((5 : Int32).toNatClampNeg) (-1)) ((6 : Int32).toNatClampNeg) (-1)))), (q_3, .inl (cy_4, 8, .inl (fun _ => 0))), (q_5, .inl (cy_6, 8, .inl (fun _ => 0)))] H := hP
  have hD : va_D A [(h0, .inr (5, [.int p0, .ref q_1, .ref q_3, .ref q_5, .int 0, .int 0, .int 0])), (q_1, .inl (cy_2, 8, .inl (upd (upd (upd (upd (upd (upd (upd (fun _ => 0) ((0 : Int32).toNatClampNeg) (-1)) ((1 : Int32).toNatClampNeg) (-1)) ((2 : Int32).toNatClampNeg) (-1)) ((3 : Int32).toNatClampNeg) (-1)) ((4 : Int32).toNatClampNeg) (-1)) ((5 : Int32).toNatClampNeg) (-1)) ((6 : Int32).toNatClampNeg) (-1)))), (q_3, .inl (cy_4, 8, .inl (fun _ => 0))), (q_5, .inl (cy_6, 8, .inl (fun _ => 0)))] := hD
  refine lv_iinc (v := 7) (lv' := [(2, .int 7), (0, .ref h0), (1, .int p0)]) hx hb dX3_init_48 hl (k := 0) rfl (by decide) (by decide) rfl (fun ls hl => ?_)
  refine lv_goto (tgt := 35) hx hb dX3_init_51 (by decide) ?_
  refine lv_iload_n hx hb dX3_init_35 rfl (lv_at hl 0 rfl) ?_
  refine lv_bipush (v := 8) hx hb dX3_init_36 (by decide) ?_
  refine lv_icmp_ge (tgt := 54) hx hb dX3_init_38 (by decide) (fun c_21 => ?_) (fun c_21 => ?_)
  · (first | exact absurd c_21 (by decide) | exact absurd (by decide) c_21)
  refine lv_aload_n hx hb dX3_init_41 rfl (lv_at hl 1 rfl) ?_
  refine va_get (D := (dC, dI)) (ci := 5) (v := .ref q_1) (C := RX3) (T := TX3) (N := 7) hx hb hts hiX3 hown hK hP 0 rfl rfl 1 (by decide) (hts (.fieldLink RX3 15 "Haltingale$Machine" "writes" "[I") (by decide +kernel)) (fun _ h9 => h9) rfl dX3_init_42 ?_
  refine lv_iload_n hx hb dX3_init_45 rfl (lv_at hl 0 rfl) ?_
  refine lv_iconst (v := (-1)) hx hb dX3_init_46 (by decide) ?_
  refine va_iast hx hb hK hP hD hS 1 0 rfl rfl (by unfold vp_in; decide) dX3_init_47 (fun H locs hP hD hS => ?_)
  have hP : va_P (dC, dI) vwCl [(h0, .inr (5, [.int p0, .ref q_1, .ref q_3, .ref q_5, .int 0, .int 0, .int 0])), (q_1, .inl (cy_2, 8, .inl (upd (upd (upd (upd (upd (upd (upd (upd (fun _ => 0) ((0 : Int32).toNatClampNeg) (-1)) ((1 : Int32).toNatClampNeg) (-1)) ((2 : Int32).toNatClampNeg) (-1)) ((3 : Int32).toNatClampNeg) (-1)) ((4 : Int32).toNatClampNeg) (-1)) ((5 : Int32).toNatClampNeg) (-1)) ((6 : Int32).toNatClampNeg) (-1)) ((7 : Int32).toNatClampNeg) (-1)))), (q_3, .inl (cy_4, 8, .inl (fun _ => 0))), (q_5, .inl (cy_6, 8, .inl (fun _ => 0)))] H := hP
  have hD : va_D A [(h0, .inr (5, [.int p0, .ref q_1, .ref q_3, .ref q_5, .int 0, .int 0, .int 0])), (q_1, .inl (cy_2, 8, .inl (upd (upd (upd (upd (upd (upd (upd (upd (fun _ => 0) ((0 : Int32).toNatClampNeg) (-1)) ((1 : Int32).toNatClampNeg) (-1)) ((2 : Int32).toNatClampNeg) (-1)) ((3 : Int32).toNatClampNeg) (-1)) ((4 : Int32).toNatClampNeg) (-1)) ((5 : Int32).toNatClampNeg) (-1)) ((6 : Int32).toNatClampNeg) (-1)) ((7 : Int32).toNatClampNeg) (-1)))), (q_3, .inl (cy_4, 8, .inl (fun _ => 0))), (q_5, .inl (cy_6, 8, .inl (fun _ => 0)))] := hD
  refine lv_iinc (v := 8) (lv' := [(2, .int 8), (0, .ref h0), (1, .int p0)]) hx hb dX3_init_48 hl (k := 0) rfl (by decide) (by decide) rfl (fun ls hl => ?_)
  refine lv_goto (tgt := 35) hx hb dX3_init_51 (by decide) ?_
  refine lv_iload_n hx hb dX3_init_35 rfl (lv_at hl 0 rfl) ?_
  refine lv_bipush (v := 8) hx hb dX3_init_36 (by decide) ?_
  refine lv_icmp_ge (tgt := 54) hx hb dX3_init_38 (by decide) (fun c_23 => ?_) (fun c_23 => ?_)
  rotate_left
  · (first | exact absurd c_23 (by decide) | exact absurd (by decide) c_23)
  refine lv_aload_n hx hb dX3_init_54 rfl (lv_at hl 1 rfl) ?_
  refine lv_iconst (v := (-1)) hx hb dX3_init_55 (by decide) ?_
  refine va_put (D := (dC, dI)) (ci := 5) (v := .int (-1)) (ty := .int) (C := RX3) (T := TX3) (N := 7) hx hb hts hiX3 tyX3 tyX3_ok nmX3 hown hK hP hD hS 0 rfl rfl 4 (by decide) (hts (.fieldLink RX3 25 "Haltingale$Machine" "kind" "I") (by decide +kernel)) (fun _ h9 => h9) rfl (by decide +kernel) rfl rfl (Nat.le_of_ble_eq_true rfl) dX3_init_56 (fun H locs hP hD hS => ?_)
  have hP : va_P (dC, dI) vwCl [(h0, .inr (5, [.int p0, .ref q_1, .ref q_3, .ref q_5, .int (-1), .int 0, .int 0])), (q_1, .inl (cy_2, 8, .inl (upd (upd (upd (upd (upd (upd (upd (upd (fun _ => 0) ((0 : Int32).toNatClampNeg) (-1)) ((1 : Int32).toNatClampNeg) (-1)) ((2 : Int32).toNatClampNeg) (-1)) ((3 : Int32).toNatClampNeg) (-1)) ((4 : Int32).toNatClampNeg) (-1)) ((5 : Int32).toNatClampNeg) (-1)) ((6 : Int32).toNatClampNeg) (-1)) ((7 : Int32).toNatClampNeg) (-1)))), (q_3, .inl (cy_4, 8, .inl (fun _ => 0))), (q_5, .inl (cy_6, 8, .inl (fun _ => 0)))] H := hP
  have hD : va_D A [(h0, .inr (5, [.int p0, .ref q_1, .ref q_3, .ref q_5, .int (-1), .int 0, .int 0])), (q_1, .inl (cy_2, 8, .inl (upd (upd (upd (upd (upd (upd (upd (upd (fun _ => 0) ((0 : Int32).toNatClampNeg) (-1)) ((1 : Int32).toNatClampNeg) (-1)) ((2 : Int32).toNatClampNeg) (-1)) ((3 : Int32).toNatClampNeg) (-1)) ((4 : Int32).toNatClampNeg) (-1)) ((5 : Int32).toNatClampNeg) (-1)) ((6 : Int32).toNatClampNeg) (-1)) ((7 : Int32).toNatClampNeg) (-1)))), (q_3, .inl (cy_4, 8, .inl (fun _ => 0))), (q_5, .inl (cy_6, 8, .inl (fun _ => 0)))] := hD
  refine lv_aload_n hx hb dX3_init_59 rfl (lv_at hl 1 rfl) ?_
  refine lv_iconst (v := (-1)) hx hb dX3_init_60 (by decide) ?_
  refine va_put (D := (dC, dI)) (ci := 5) (v := .int (-1)) (ty := .int) (C := RX3) (T := TX3) (N := 7) hx hb hts hiX3 tyX3 tyX3_ok nmX3 hown hK hP hD hS 0 rfl rfl 5 (by decide) (hts (.fieldLink RX3 28 "Haltingale$Machine" "a" "I") (by decide +kernel)) (fun _ h9 => h9) rfl (by decide +kernel) rfl rfl (Nat.le_of_ble_eq_true rfl) dX3_init_61 (fun H locs hP hD hS => ?_)
  have hP : va_P (dC, dI) vwCl [(h0, .inr (5, [.int p0, .ref q_1, .ref q_3, .ref q_5, .int (-1), .int (-1), .int 0])), (q_1, .inl (cy_2, 8, .inl (upd (upd (upd (upd (upd (upd (upd (upd (fun _ => 0) ((0 : Int32).toNatClampNeg) (-1)) ((1 : Int32).toNatClampNeg) (-1)) ((2 : Int32).toNatClampNeg) (-1)) ((3 : Int32).toNatClampNeg) (-1)) ((4 : Int32).toNatClampNeg) (-1)) ((5 : Int32).toNatClampNeg) (-1)) ((6 : Int32).toNatClampNeg) (-1)) ((7 : Int32).toNatClampNeg) (-1)))), (q_3, .inl (cy_4, 8, .inl (fun _ => 0))), (q_5, .inl (cy_6, 8, .inl (fun _ => 0)))] H := hP
  have hD : va_D A [(h0, .inr (5, [.int p0, .ref q_1, .ref q_3, .ref q_5, .int (-1), .int (-1), .int 0])), (q_1, .inl (cy_2, 8, .inl (upd (upd (upd (upd (upd (upd (upd (upd (fun _ => 0) ((0 : Int32).toNatClampNeg) (-1)) ((1 : Int32).toNatClampNeg) (-1)) ((2 : Int32).toNatClampNeg) (-1)) ((3 : Int32).toNatClampNeg) (-1)) ((4 : Int32).toNatClampNeg) (-1)) ((5 : Int32).toNatClampNeg) (-1)) ((6 : Int32).toNatClampNeg) (-1)) ((7 : Int32).toNatClampNeg) (-1)))), (q_3, .inl (cy_4, 8, .inl (fun _ => 0))), (q_5, .inl (cy_6, 8, .inl (fun _ => 0)))] := hD
  refine lv_aload_n hx hb dX3_init_64 rfl (lv_at hl 1 rfl) ?_
  refine lv_iconst (v := (-1)) hx hb dX3_init_65 (by decide) ?_
  refine va_put (D := (dC, dI)) (ci := 5) (v := .int (-1)) (ty := .int) (C := RX3) (T := TX3) (N := 7) hx hb hts hiX3 tyX3 tyX3_ok nmX3 hown hK hP hD hS 0 rfl rfl 6 (by decide) (hts (.fieldLink RX3 31 "Haltingale$Machine" "b" "I") (by decide +kernel)) (fun _ h9 => h9) rfl (by decide +kernel) rfl rfl (Nat.le_of_ble_eq_true rfl) dX3_init_66 (fun H locs hP hD hS => ?_)
  have hP : va_P (dC, dI) vwCl [(h0, .inr (5, [.int p0, .ref q_1, .ref q_3, .ref q_5, .int (-1), .int (-1), .int (-1)])), (q_1, .inl (cy_2, 8, .inl (upd (upd (upd (upd (upd (upd (upd (upd (fun _ => 0) ((0 : Int32).toNatClampNeg) (-1)) ((1 : Int32).toNatClampNeg) (-1)) ((2 : Int32).toNatClampNeg) (-1)) ((3 : Int32).toNatClampNeg) (-1)) ((4 : Int32).toNatClampNeg) (-1)) ((5 : Int32).toNatClampNeg) (-1)) ((6 : Int32).toNatClampNeg) (-1)) ((7 : Int32).toNatClampNeg) (-1)))), (q_3, .inl (cy_4, 8, .inl (fun _ => 0))), (q_5, .inl (cy_6, 8, .inl (fun _ => 0)))] H := hP
  have hD : va_D A [(h0, .inr (5, [.int p0, .ref q_1, .ref q_3, .ref q_5, .int (-1), .int (-1), .int (-1)])), (q_1, .inl (cy_2, 8, .inl (upd (upd (upd (upd (upd (upd (upd (upd (fun _ => 0) ((0 : Int32).toNatClampNeg) (-1)) ((1 : Int32).toNatClampNeg) (-1)) ((2 : Int32).toNatClampNeg) (-1)) ((3 : Int32).toNatClampNeg) (-1)) ((4 : Int32).toNatClampNeg) (-1)) ((5 : Int32).toNatClampNeg) (-1)) ((6 : Int32).toNatClampNeg) (-1)) ((7 : Int32).toNatClampNeg) (-1)))), (q_3, .inl (cy_4, 8, .inl (fun _ => 0))), (q_5, .inl (cy_6, 8, .inl (fun _ => 0)))] := hD
  have hP9 := hP.sub (ws' := [(h0, .inr (5, [.int p0, .ref q_1, .ref q_3, .ref q_5, .int (-1), .int (-1), .int (-1)]))]) [0] rfl
  have hD9 := hD.sub (ws' := [(h0, .inr (5, [.int p0, .ref q_1, .ref q_3, .ref q_5, .int (-1), .int (-1), .int (-1)]))]) [0] (by decide) rfl
  have hK9 := hK.sub (tys' := []) [] rfl
  refine W.widen (k := 3) (n := 24) (Nat.le_of_ble_eq_true rfl) (Nat.le_of_ble_eq_true rfl) ?_
  exact W.vret hx hb hr (fun t ht hW => ⟨⟨(), rfl, trivial, ⟨q_1, q_3, q_5, by rw [ht]; exact hP9, va_K.moved hW.alike hK9, hD9⟩⟩, hS.F ht⟩) hS.2.2 dX3_init_69

def zs_c_X7_append : List Cond := .code yX7_append cX7_append 2 (some .int) :: (([.fieldLink RX7 148 "Haltingale" "machineCount" "I", .fieldLink RX7 11 "Haltingale" "machines" "[LHaltingale$Machine;"] : List Cond) ++ wsX70)
set_option maxHeartbeats 4000000 in
set_option maxRecDepth 100000 in
/-- append, the first -/
theorem c_X7_append (l : Launch) (hnt : l.stackTraces = false) (dC : Nat → ClassId) (dI : Nat → Nat → Nat) (a0 : Nat) (h0 : Nat) (qm : Nat) (qt : Nat) (qw : Nat) (qc : Nat) (qb : Nat) (qg : Nat) (h1 : Nat) (cM : ClassId) (p0 : Int32) (w1 : Nat) (w2 : Nat) (w3 : Nat) (sz : Nat)  : Met l yX7_append zs_c_X7_append ({ frames := 0, cells := 0, slots := 0, locals := 0 }) (va_Pc [.ref h0, .ref h1] (fun U => U.heap.size = sz ∧ va_P (dC, dI) vwCl [(h0, .inr (9, [.ref qm, .ref qt, .ref qw, .ref qc, .ref qb, .ref qg, .int 0, .int 0, .int 0, .int 0, .int 0])), (qm, .inl (cM, 12, .inr (.inr (.inr (.inr (fun _ => none)))))), (h1, .inr (5, [.int p0, .ref w1, .ref w2, .ref w3, .int (-1), .int (-1), .int (-1)]))] U.heap ∧ va_K (dC, dI) vwCl [(cM, .object "Haltingale$Machine")] U ∧ va_D (fun _ => True) [(h0, .inr (9, [.ref qm, .ref qt, .ref qw, .ref qc, .ref qb, .ref qg, .int 0, .int 0, .int 0, .int 0, .int 0])), (qm, .inl (cM, 12, .inr (.inr (.inr (.inr (fun _ => none)))))), (h1, .inr (5, [.int p0, .ref w1, .ref w2, .ref w3, .int (-1), .int (-1), .int (-1)]))] ∧ zB a0 (va_A [(h0, .inr (9, [.ref qm, .ref qt, .ref qw, .ref qc, .ref qb, .ref qg, .int 0, .int 0, .int 0, .int 0, .int 0])), (qm, .inl (cM, 12, .inr (.inr (.inr (.inr (fun _ => none)))))), (h1, .inr (5, [.int p0, .ref w1, .ref w2, .ref w3, .int (-1), .int (-1), .int (-1)]))] sz) U U.heap)) (va_Qi (fun (r : Int32) (_ : Unit) => r = 0) (fun _ t => va_P (dC, dI) vwCl [] t.heap ∧ va_K (dC, dI) vwCl [] t ∧ va_D (va_A [(h0, .inr (9, [.ref qm, .ref qt, .ref qw, .ref qc, .ref qb, .ref qg, .int 0, .int 0, .int 0, .int 0, .int 0])), (qm, .inl (cM, 12, .inr (.inr (.inr (.inr (fun _ => none)))))), (h1, .inr (5, [.int p0, .ref w1, .ref w2, .ref w3, .int (-1), .int (-1), .int (-1)]))] sz) []) (va_A [(h0, .inr (9, [.ref qm, .ref qt, .ref qw, .ref qc, .ref qb, .ref qg, .int 0, .int 0, .int 0, .int 0, .int 0])), (qm, .inl (cM, 12, .inr (.inr (.inr (.inr (fun _ => none)))))), (h1, .inr (5, [.int p0, .ref w1, .ref w2, .ref w3, .int (-1), .int (-1), .int (-1)]))] sz)) 0 0 (va_A [(h0, .inr (9, [.ref qm, .ref qt, .ref qw, .ref qc, .ref qb, .ref qg, .int 0, .int 0, .int 0, .int 0, .int 0])), (qm, .inl (cM, 12, .inr (.inr (.inr (.inr (fun _ => none)))))), (h1, .inr (5, [.int p0, .ref w1, .ref w2, .ref w3, .int (-1), .int (-1), .int (-1)]))] sz) := by
  refine Met.ofW (cc := cX7_append) (maxL := 2) (ret := (some .int)) (by decide) rfl ?_
  intro p e s m args below meth c s₁ B hml hv
  obtain ⟨rfl, hsz, hP, hK, hD0, hZ⟩ := hv
  have hx := B.exec
  have hb := B.bytes
  have hr := B.returns
  have hts := atoms_spec (ws := zs_c_X7_append) B.pre
  have hown : s.vm.findClass RX7 = some m.cls := findClass_of_methodNamed B.named
  have hlocks := B.notSynchronized
  have hiX7 : ∀ w ∈ wsX70, w ∈ zs_c_X7_append := by decide +kernel
  subst hsz
  have hD := hD0.self (sz := s.heap.size)
  generalize hAe : va_A [(h0, .inr (9, [.ref qm, .ref qt, .ref qw, .ref qc, .ref qb, .ref qg, .int 0, .int 0, .int 0, .int 0, .int 0])), (qm, .inl (cM, 12, .inr (.inr (.inr (.inr (fun _ => none)))))), (h1, .inr (5, [.int p0, .ref w1, .ref w2, .ref w3, .int (-1), .int (-1), .int (-1)]))] s.heap.size = A at hD hZ ⊢
  have hA : ∀ q : Nat, s.heap.size ≤ q → A q := fun q h => by rw [← hAe]; exact Or.inr h
  have hS : va_S A s.heap s.heap [] := va_S.rf
  have hl := lv_entry ([.ref h0, .ref h1]) (n := 2) (Nat.le_of_ble_eq_true rfl)
  rw [lg_entry_eq]
  generalize (lg_sl ([.ref h0, .ref h1]) ++ List.replicate (2 - (lg_sl ([.ref h0, .ref h1])).length) Slot.unset).toArray = ls at hl ⊢
  have hl : lv_has ls 2 [(0, .ref h0), (1, .ref h1)] := hl
  refine lv_aload_n hx hb dX7_append_0 rfl (lv_at hl 0 rfl) ?_
  refine va_get (D := (dC, dI)) (ci := 9) (v := .int 0) (C := RX7) (T := TX7) (N := 11) hx hb hts hiX7 hown hK hP 0 rfl rfl 6 (by decide) (hts (.fieldLink RX7 148 "Haltingale" "machineCount" "I") (by decide +kernel)) (fun _ h9 => h9) rfl dX7_append_1 ?_
  refine lv_if_lt (tgt := 36) hx hb dX7_append_4 (by decide) (fun c_1 => ?_) (fun c_1 => ?_)
  · (first | exact absurd c_1 (by decide) | exact absurd (by decide) c_1)
  refine lv_aload_n hx hb dX7_append_7 rfl (lv_at hl 0 rfl) ?_
  refine va_get (D := (dC, dI)) (ci := 9) (v := .int 0) (C := RX7) (T := TX7) (N := 11) hx hb hts hiX7 hown hK hP 0 rfl rfl 6 (by decide) (hts (.fieldLink RX7 148 "Haltingale" "machineCount" "I") (by decide +kernel)) (fun _ h9 => h9) rfl dX7_append_8 ?_
  refine lv_bipush (v := 12) hx hb dX7_append_11 (by decide) ?_
  refine lv_icmp_ge (tgt := 36) hx hb dX7_append_13 (by decide) (fun c_2 => ?_) (fun c_2 => ?_)
  · (first | exact absurd c_2 (by decide) | exact absurd (by decide) c_2)
  refine lv_aload_n hx hb dX7_append_16 rfl (lv_at hl 0 rfl) ?_
  refine va_get (D := (dC, dI)) (ci := 9) (v := .ref qm) (C := RX7) (T := TX7) (N := 11) hx hb hts hiX7 hown hK hP 0 rfl rfl 0 (by decide) (hts (.fieldLink RX7 11 "Haltingale" "machines" "[LHaltingale$Machine;") (by decide +kernel)) (fun _ h9 => h9) rfl dX7_append_17 ?_
  refine lv_aload_n hx hb dX7_append_20 rfl (lv_at hl 0 rfl) ?_
  refine va_get (D := (dC, dI)) (ci := 9) (v := .int 0) (C := RX7) (T := TX7) (N := 11) hx hb hts hiX7 hown hK hP 0 rfl rfl 6 (by decide) (hts (.fieldLink RX7 148 "Haltingale" "machineCount" "I") (by decide +kernel)) (fun _ h9 => h9) rfl dX7_append_21 ?_
  refine lv_aload_n hx hb dX7_append_24 rfl (lv_at hl 1 rfl) ?_
  refine va_astq (r := (RX3, TX3, 7)) hx hb hK hP hD hS 1 0 2 5 rfl rfl rfl rfl (by unfold vp_in; decide) dX7_append_25 (fun H locs hP hD hS => ?_)
  have hP : va_P (dC, dI) vwCl [(h0, .inr (9, [.ref qm, .ref qt, .ref qw, .ref qc, .ref qb, .ref qg, .int 0, .int 0, .int 0, .int 0, .int 0])), (qm, .inl (cM, 12, .inr (.inr (.inr (.inr (va_up (fun _ => none) ((0 : Int32).toNatClampNeg) (some h1))))))), (h1, .inr (5, [.int p0, .ref w1, .ref w2, .ref w3, .int (-1), .int (-1), .int (-1)]))] H := hP
  have hD : va_D A [(h0, .inr (9, [.ref qm, .ref qt, .ref qw, .ref qc, .ref qb, .ref qg, .int 0, .int 0, .int 0, .int 0, .int 0])), (qm, .inl (cM, 12, .inr (.inr (.inr (.inr (va_up (fun _ => none) ((0 : Int32).toNatClampNeg) (some h1))))))), (h1, .inr (5, [.int p0, .ref w1, .ref w2, .ref w3, .int (-1), .int (-1), .int (-1)]))] := hD
  refine lv_aload_n hx hb dX7_append_26 rfl (lv_at hl 0 rfl) ?_
  refine lv_dup hx hb dX7_append_27 rfl ?_
  refine va_get (D := (dC, dI)) (ci := 9) (v := .int 0) (C := RX7) (T := TX7) (N := 11) hx hb hts hiX7 hown hK hP 0 rfl rfl 6 (by decide) (hts (.fieldLink RX7 148 "Haltingale" "machineCount" "I") (by decide +kernel)) (fun _ h9 => h9) rfl dX7_append_28 ?_
  refine lv_iconst (v := 1) hx hb dX7_append_31 (by decide) ?_
  refine lv_iadd hx hb dX7_append_32 ?_
  refine lv_topi (fun x_3 ex_3 => ?_)
  obtain rfl : x_3 = 1 := ex_3.trans (by decide)
  refine va_put (D := (dC, dI)) (ci := 9) (v := .int 1) (ty := .int) (C := RX7) (T := TX7) (N := 11) hx hb hts hiX7 tyX7 tyX7_ok nmX7 hown hK hP hD hS 0 rfl rfl 6 (by decide) (hts (.fieldLink RX7 148 "Haltingale" "machineCount" "I") (by decide +kernel)) (fun _ h9 => h9) rfl (by decide +kernel) rfl rfl (Nat.le_of_ble_eq_true rfl) dX7_append_33 (fun H locs hP hD hS => ?_)
  have hP : va_P (dC, dI) vwCl [(h0, .inr (9, [.ref qm, .ref qt, .ref qw, .ref qc, .ref qb, .ref qg, .int 1, .int 0, .int 0, .int 0, .int 0])), (qm, .inl (cM, 12, .inr (.inr (.inr (.inr (va_up (fun _ => none) ((0 : Int32).toNatClampNeg) (some h1))))))), (h1, .inr (5, [.int p0, .ref w1, .ref w2, .ref w3, .int (-1), .int (-1), .int (-1)]))] H := hP
  have hD : va_D A [(h0, .inr (9, [.ref qm, .ref qt, .ref qw, .ref qc, .ref qb, .ref qg, .int 1, .int 0, .int 0, .int 0, .int 0])), (qm, .inl (cM, 12, .inr (.inr (.inr (.inr (va_up (fun _ => none) ((0 : Int32).toNatClampNeg) (some h1))))))), (h1, .inr (5, [.int p0, .ref w1, .ref w2, .ref w3, .int (-1), .int (-1), .int (-1)]))] := hD
  refine lv_aload_n hx hb dX7_append_36 rfl (lv_at hl 0 rfl) ?_
  refine va_get (D := (dC, dI)) (ci := 9) (v := .int 1) (C := RX7) (T := TX7) (N := 11) hx hb hts hiX7 hown hK hP 0 rfl rfl 6 (by decide) (hts (.fieldLink RX7 148 "Haltingale" "machineCount" "I") (by decide +kernel)) (fun _ h9 => h9) rfl dX7_append_37 ?_
  refine lv_iconst (v := 1) hx hb dX7_append_40 (by decide) ?_
  refine lv_isub hx hb dX7_append_41 ?_
  refine lv_topi (fun x_4 ex_4 => ?_)
  obtain rfl : x_4 = 0 := ex_4.trans (by decide)
  have hP9 := hP.sub (ws' := []) [] rfl
  have hD9 := hD.sub (ws' := []) [] (by decide) rfl
  have hK9 := hK.sub (tys' := []) [] rfl
  refine W.widen (k := 0) (n := 0) (Nat.le_of_ble_eq_true rfl) (Nat.le_of_ble_eq_true rfl) ?_
  exact W.iret (v := 0) hx hb hr (fun t ht hW => ⟨⟨0, (), rfl, rfl, ⟨by rw [ht]; exact hP9, va_K.moved hW.alike hK9, hD9⟩⟩, hS.F ht⟩) hS.2.2 dX7_append_42

def zs_c_X7_machine_ok : List Cond := .code yX7_machine cX7_machine 2 (some .int) :: (([.code yX7_isWithin cX7_isWithin 3 (some .boolean), .methodLink RX7 49 yX7_isWithin, .static yX7_isWithin, .initialized RX7, .code yX7_require cX7_require 1 none, .methodLink RX7 53 yX7_require, .static yX7_require, .code yX7_requireRoomForMachine cX7_requireRoomForMachine 1 none, .fieldLink RX7 148 "Haltingale" "machineCount" "I", .methodLink RX7 57 yX7_requireRoomForMachine, .instanceMethod yX7_requireRoomForMachine, .selects RX7 yX7_requireRoomForMachine yX7_requireRoomForMachine, .classLink RX7 9 RX3, .instantiable RX3 7, .initialized RX3, .code yX3_init cX3_init 3 none, .methodLink RX3 3 objectInit, .instanceMethod objectInit, .code objectInit ⟨#[0xb1]⟩ 1 none, .fieldLink RX3 9 "Haltingale$Machine" "states" "I", .arrayClass .int, .fieldLink RX3 15 "Haltingale$Machine" "writes" "[I", .fieldLink RX3 19 "Haltingale$Machine" "moves" "[I", .fieldLink RX3 22 "Haltingale$Machine" "nexts" "[I", .fieldLink RX3 25 "Haltingale$Machine" "kind" "I", .fieldLink RX3 28 "Haltingale$Machine" "a" "I", .fieldLink RX3 31 "Haltingale$Machine" "b" "I", .methodLink RX7 60 yX3_init, .instanceMethod yX3_init, .code yX7_append cX7_append 2 (some .int), .fieldLink RX7 11 "Haltingale" "machines" "[LHaltingale$Machine;", .methodLink RX7 63 yX7_append, .instanceMethod yX7_append, .selects RX7 yX7_append yX7_append] : List Cond) ++ wsX70 ++ wsX30)
set_option maxHeartbeats 4000000 in
set_option maxRecDepth 100000 in
/-- machine, the first -/
theorem c_X7_machine_ok (l : Launch) (hnt : l.stackTraces = false) (dC : Nat → ClassId) (dI : Nat → Nat → Nat) (a0 : Nat) (h0 : Nat) (qm : Nat) (qt : Nat) (qw : Nat) (qc : Nat) (qb : Nat) (qg : Nat) (cM : ClassId) (p0 : Int32) (sz : Nat) (hp : zw p0 2 4 = 1) : Met l yX7_machine zs_c_X7_machine_ok ({ frames := 2, cells := 4, slots := 31, locals := 34 }) (va_Pc [.ref h0, .int p0] (fun U => U.heap.size = sz ∧ va_P (dC, dI) vwCl [(h0, .inr (9, [.ref qm, .ref qt, .ref qw, .ref qc, .ref qb, .ref qg, .int 0, .int 0, .int 0, .int 0, .int 0])), (qm, .inl (cM, 12, .inr (.inr (.inr (.inr (fun _ => none))))))] U.heap ∧ va_K (dC, dI) vwCl [(cM, .object "Haltingale$Machine")] U ∧ va_D (fun _ => True) [(h0, .inr (9, [.ref qm, .ref qt, .ref qw, .ref qc, .ref qb, .ref qg, .int 0, .int 0, .int 0, .int 0, .int 0])), (qm, .inl (cM, 12, .inr (.inr (.inr (.inr (fun _ => none))))))] ∧ zB a0 (va_A [(h0, .inr (9, [.ref qm, .ref qt, .ref qw, .ref qc, .ref qb, .ref qg, .int 0, .int 0, .int 0, .int 0, .int 0])), (qm, .inl (cM, 12, .inr (.inr (.inr (.inr (fun _ => none))))))] sz) U U.heap)) (va_Qi (fun (r : Int32) (_ : Unit) => r = 0) (fun _ t => va_P (dC, dI) vwCl [] t.heap ∧ va_K (dC, dI) vwCl [] t ∧ va_D (va_A [(h0, .inr (9, [.ref qm, .ref qt, .ref qw, .ref qc, .ref qb, .ref qg, .int 0, .int 0, .int 0, .int 0, .int 0])), (qm, .inl (cM, 12, .inr (.inr (.inr (.inr (fun _ => none))))))] sz) []) (va_A [(h0, .inr (9, [.ref qm, .ref qt, .ref qw, .ref qc, .ref qb, .ref qg, .int 0, .int 0, .int 0, .int 0, .int 0])), (qm, .inl (cM, 12, .inr (.inr (.inr (.inr (fun _ => none))))))] sz)) 4 31 (va_A [(h0, .inr (9, [.ref qm, .ref qt, .ref qw, .ref qc, .ref qb, .ref qg, .int 0, .int 0, .int 0, .int 0, .int 0])), (qm, .inl (cM, 12, .inr (.inr (.inr (.inr (fun _ => none))))))] sz) := by
  refine Met.ofW (cc := cX7_machine) (maxL := 2) (ret := (some .int)) (by decide) rfl ?_
  intro p e s m args below meth c s₁ B hml hv
  obtain ⟨rfl, hsz, hP, hK, hD0, hZ⟩ := hv
  have hx := B.exec
  have hb := B.bytes
  have hr := B.returns
  have hts := atoms_spec (ws := zs_c_X7_machine_ok) B.pre
  have hown : s.vm.findClass RX7 = some m.cls := findClass_of_methodNamed B.named
  have hlocks := B.notSynchronized
  have hiX3 : ∀ w ∈ wsX30, w ∈ zs_c_X7_machine_ok := by decide +kernel
  subst hsz
  have hD := hD0.self (sz := s.heap.size)
  generalize hAe : va_A [(h0, .inr (9, [.ref qm, .ref qt, .ref qw, .ref qc, .ref qb, .ref qg, .int 0, .int 0, .int 0, .int 0, .int 0])), (qm, .inl (cM, 12, .inr (.inr (.inr (.inr (fun _ => none))))))] s.heap.size = A at hD hZ ⊢
  have hA : ∀ q : Nat, s.heap.size ≤ q → A q := fun q h => by rw [← hAe]; exact Or.inr h
  have hS : va_S A s.heap s.heap [] := va_S.rf
  have hl := lv_entry ([.ref h0, .int p0]) (n := 2) (Nat.le_of_ble_eq_true rfl)
  rw [lg_entry_eq]
  generalize (lg_sl ([.ref h0, .int p0]) ++ List.replicate (2 - (lg_sl ([.ref h0, .int p0])).length) Slot.unset).toArray = ls at hl ⊢
  have hl : lv_has ls 2 [(0, .ref h0), (1, .int p0)] := hl
  refine lv_iload_n hx hb dX7_machine_0 rfl (lv_at hl 1 rfl) ?_
  refine lv_iconst (v := 2) hx hb dX7_machine_1 (by decide) ?_
  refine lv_iconst (v := 4) hx hb dX7_machine_2 (by decide) ?_
  have hPc := hP.sub (ws' := []) [] rfl
  have hDc := hD.sub (ws' := []) [] (by decide) rfl
  have hKc := hK.sub (tys' := []) [] rfl
  have hFc := va_free (wc := []) hD hS hA [] rfl
  have hZc := ((hZ.kept hS.2.1).narrow hFc)
  refine va_calli (va_runS (As := [.int p0, .int 2, .int 4]) (rest := []) ⟨hx, hb, hml, hown, hts⟩ (c_X7_isWithin l hnt dC dI a0 p0 2 4 s.heap.size ) (va_cwS 3 hts (goodIn_of _ (by decide +kernel)) rfl rfl rfl (by decide +kernel) ⟨Nat.le_of_ble_eq_true rfl, Nat.le_of_ble_eq_true rfl⟩) ⟨fun a U g mk q => by obtain ⟨q0, q1, qP, qK, qD, qZ⟩ := q; exact ⟨q0, q1, qP, va_K.moved (u := U) (U := U.calling g mk a) (Vm.Alike.refl U.vm) qK, qD, qZ.call⟩, fun U hU hW => ⟨rfl, by rw [hU], by rw [hU]; exact hPc, va_K.moved hW.alike hKc, hDc.weaken (fun _ _ _ _ => trivial), by rw [hU]; exact hZc.warm hW⟩⟩ rfl rfl hl.1 rfl (lv_room (Nat.le_of_ble_eq_true rfl)) dX7_machine_3 ⟨Nat.le_of_ble_eq_true rfl, Nat.le_of_ble_eq_true rfl⟩) hS (fun q _ h => hFc q h) hFc (fun r_1 u t H1 locs ht hvm hw hB hz1 hk1 hS => ?_)
  obtain ⟨hP1, hK1, hD1⟩ := hB
  rw [ht] at hP1
  have hK1 := va_K.moved hvm.symm hK1
  obtain ⟨hP, hD⟩ := va_join (wr := [(h0, .inr (9, [.ref qm, .ref qt, .ref qw, .ref qc, .ref qb, .ref qg, .int 0, .int 0, .int 0, .int 0, .int 0])), (qm, .inl (cM, 12, .inr (.inr (.inr (.inr (fun _ => none))))))]) (w1 := []) hP hD [] [0, 1] rfl rfl (by decide) (by decide) hk1 hFc hP1 hD1
  have hK := (hK.sub (tys' := [(cM, .object "Haltingale$Machine")]) [0] rfl).app hK1
  generalize H1 = H at hP hS ⊢
  have hP : va_P (dC, dI) vwCl [(h0, .inr (9, [.ref qm, .ref qt, .ref qw, .ref qc, .ref qb, .ref qg, .int 0, .int 0, .int 0, .int 0, .int 0])), (qm, .inl (cM, 12, .inr (.inr (.inr (.inr (fun _ => none))))))] H := hP
  have hD : va_D A [(h0, .inr (9, [.ref qm, .ref qt, .ref qw, .ref qc, .ref qb, .ref qg, .int 0, .int 0, .int 0, .int 0, .int 0])), (qm, .inl (cM, 12, .inr (.inr (.inr (.inr (fun _ => none))))))] := hD
  have hK : va_K (dC, dI) vwCl [(cM, .object "Haltingale$Machine")] s := hK
  refine W.widen (k := 0) (n := 0) (Nat.le_of_ble_eq_true rfl) (Nat.le_of_ble_eq_true rfl) ?_
  obtain rfl : r_1 = 1 := hw.trans (hp)
  have hPc := hP.sub (ws' := []) [] rfl
  have hDc := hD.sub (ws' := []) [] (by decide) rfl
  have hKc := hK.sub (tys' := []) [] rfl
  have hFc := va_free (wc := []) hD hS hA [] rfl
  have hZc := ((hZ.kept hS.2.1).narrow hFc)
  refine va_callv (va_runS (As := [.int 1]) (rest := []) ⟨hx, hb, hml, hown, hts⟩ (c_X7_require_ok l hnt dC dI a0  H.size ) (va_cwS 1 hts (goodIn_of _ (by decide +kernel)) rfl rfl rfl (by decide +kernel) ⟨Nat.le_of_ble_eq_true rfl, Nat.le_of_ble_eq_true rfl⟩) ⟨fun a U g mk q => by obtain ⟨q0, q1, qP, qK, qD, qZ⟩ := q; exact ⟨q0, q1, qP, va_K.moved (u := U) (U := U.calling g mk a) (Vm.Alike.refl U.vm) qK, qD, qZ.call⟩, fun U hU hW => ⟨rfl, by rw [hU], by rw [hU]; exact hPc, va_K.moved hW.alike hKc, hDc.weaken (fun _ _ _ _ => trivial), by rw [hU]; exact hZc.warm hW⟩⟩ rfl rfl hl.1 rfl (lv_room (Nat.le_of_ble_eq_true rfl)) dX7_machine_6 ⟨Nat.le_of_ble_eq_true rfl, Nat.le_of_ble_eq_true rfl⟩) hS (fun q _ h => hFc q h) hFc (fun u t H1 locs ht hvm hw hB hz1 hk1 hS => ?_)
  obtain ⟨hP1, hK1, hD1⟩ := hB
  rw [ht] at hP1
  have hK1 := va_K.moved hvm.symm hK1
  obtain ⟨hP, hD⟩ := va_join (wr := [(h0, .inr (9, [.ref qm, .ref qt, .ref qw, .ref qc, .ref qb, .ref qg, .int 0, .int 0, .int 0, .int 0, .int 0])), (qm, .inl (cM, 12, .inr (.inr (.inr (.inr (fun _ => none))))))]) (w1 := []) hP hD [] [0, 1] rfl rfl (by decide) (by decide) hk1 hFc hP1 hD1
  have hK := (hK.sub (tys' := [(cM, .object "Haltingale$Machine")]) [0] rfl).app hK1
  generalize H1 = H at hP hS ⊢
  have hP : va_P (dC, dI) vwCl [(h0, .inr (9, [.ref qm, .ref qt, .ref qw, .ref qc, .ref qb, .ref qg, .int 0, .int 0, .int 0, .int 0, .int 0])), (qm, .inl (cM, 12, .inr (.inr (.inr (.inr (fun _ => none))))))] H := hP
  have hD : va_D A [(h0, .inr (9, [.ref qm, .ref qt, .ref qw, .ref qc, .ref qb, .ref qg, .int 0, .int 0, .int 0, .int 0, .int 0])), (qm, .inl (cM, 12, .inr (.inr (.inr (.inr (fun _ => none))))))] := hD
  have hK : va_K (dC, dI) vwCl [(cM, .object "Haltingale$Machine")] s := hK
  refine W.widen (k := 0) (n := 0) (Nat.le_of_ble_eq_true rfl) (Nat.le_of_ble_eq_true rfl) ?_
  refine lv_aload_n hx hb dX7_machine_9 rfl (lv_at hl 0 rfl) ?_
  have hPc := hP.sub (ws' := [(h0, .inr (9, [.ref qm, .ref qt, .ref qw, .ref qc, .ref qb, .ref qg, .int 0, .int 0, .int 0, .int 0, .int 0]))]) [0] rfl
  have hDc := hD.sub (ws' := [(h0, .inr (9, [.ref qm, .ref qt, .ref qw, .ref qc, .ref qb, .ref qg, .int 0, .int 0, .int 0, .int 0, .int 0]))]) [0] (by decide) rfl
  have hKc := hK.sub (tys' := []) [] rfl
  have hFc := va_free (wc := [(h0, .inr (9, [.ref qm, .ref qt, .ref qw, .ref qc, .ref qb, .ref qg, .int 0, .int 0, .int 0, .int 0, .int 0]))]) hD hS hA [0] rfl
  have hZc := ((hZ.kept hS.2.1).narrow hFc)
  refine va_callv (va_runV (As := []) (rest := []) ⟨hx, hb, hml, hown, hts⟩ (c_X7_requireRoomForMachine l hnt dC dI a0 h0 qm qt qw qc qb qg H.size ) (cwV 0 hts (goodIn_of _ (by decide +kernel)) rfl rfl rfl (by decide +kernel) ⟨Nat.le_of_ble_eq_true rfl, Nat.le_of_ble_eq_true rfl⟩) ⟨fun a U g mk q => by obtain ⟨q0, q1, qP, qK, qD, qZ⟩ := q; exact ⟨q0, q1, qP, va_K.moved (u := U) (U := U.calling g mk a) (Vm.Alike.refl U.vm) qK, qD, qZ.call⟩, va_recv hKc hPc (ci := 9) (q0 := 0) rfl rfl, fun U hU hW => ⟨rfl, by rw [hU], by rw [hU]; exact hPc, va_K.moved hW.alike hKc, hDc.weaken (fun _ _ _ _ => trivial), by rw [hU]; exact hZc.warm hW⟩⟩ rfl rfl hl.1 rfl (lv_room (Nat.le_of_ble_eq_true rfl)) dX7_machine_10 ⟨Nat.le_of_ble_eq_true rfl, Nat.le_of_ble_eq_true rfl⟩) hS (fun q _ h => hFc q h) hFc (fun u t H1 locs ht hvm hw hB hz1 hk1 hS => ?_)
  obtain ⟨hP1, hK1, hD1⟩ := hB
  rw [ht] at hP1
  have hK1 := va_K.moved hvm.symm hK1
  obtain ⟨hP, hD⟩ := va_join (wr := [(qm, .inl (cM, 12, .inr (.inr (.inr (.inr (fun _ => none))))))]) (w1 := [(h0, .inr (9, [.ref qm, .ref qt, .ref qw, .ref qc, .ref qb, .ref qg, .int 0, .int 0, .int 0, .int 0, .int 0]))]) hP hD [0] [1] rfl rfl (by decide) (by decide) hk1 hFc hP1 hD1
  have hK := (hK.sub (tys' := [(cM, .object "Haltingale$Machine")]) [0] rfl).app hK1
  generalize H1 = H at hP hS ⊢
  have hP : va_P (dC, dI) vwCl [(qm, .inl (cM, 12, .inr (.inr (.inr (.inr (fun _ => none)))))), (h0, .inr (9, [.ref qm, .ref qt, .ref qw, .ref qc, .ref qb, .ref qg, .int 0, .int 0, .int 0, .int 0, .int 0]))] H := hP
  have hD : va_D A [(qm, .inl (cM, 12, .inr (.inr (.inr (.inr (fun _ => none)))))), (h0, .inr (9, [.ref qm, .ref qt, .ref qw, .ref qc, .ref qb, .ref qg, .int 0, .int 0, .int 0, .int 0, .int 0]))] := hD
  have hK : va_K (dC, dI) vwCl [(cM, .object "Haltingale$Machine")] s := hK
  refine W.widen (k := 0) (n := 0) (Nat.le_of_ble_eq_true rfl) (Nat.le_of_ble_eq_true rfl) ?_
  refine lv_aload_n hx hb dX7_machine_13 rfl (lv_at hl 0 rfl) ?_
  refine va_new (ci := 5) (fs := [.int 0, .null, .null, .null, .int 0, .int 0, .int 0]) (C := RX3) (T := TX3) (N := 7) hx hb hts hiX3 tyX3 tyX3_ok hown (hts (.classLink RX7 9 RX3) (by decide +kernel)) (hts (.instantiable RX3 7) (by decide +kernel)) (hts (.initialized RX3) (by decide +kernel)) hK hP hD hS hA rfl (fun j hj => by rcases (show j = 0 ∨ j = 1 ∨ j = 2 ∨ j = 3 ∨ j = 4 ∨ j = 5 ∨ j = 6 by omega) with rfl | rfl | rfl | rfl | rfl | rfl | rfl <;> rfl) (Nat.le_of_ble_eq_true rfl) (Nat.le_of_ble_eq_true rfl) dX7_machine_14 (fun q_4 H hP hD hS => ?_)
  have hP : va_P (dC, dI) vwCl [(qm, .inl (cM, 12, .inr (.inr (.inr (.inr (fun _ => none)))))), (h0, .inr (9, [.ref qm, .ref qt, .ref qw, .ref qc, .ref qb, .ref qg, .int 0, .int 0, .int 0, .int 0, .int 0])), (q_4, .inr (5, [.int 0, .null, .null, .null, .int 0, .int 0, .int 0]))] H := hP
  have hD : va_D A [(qm, .inl (cM, 12, .inr (.inr (.inr (.inr (fun _ => none)))))), (h0, .inr (9, [.ref qm, .ref qt, .ref qw, .ref qc, .ref qb, .ref qg, .int 0, .int 0, .int 0, .int 0, .int 0])), (q_4, .inr (5, [.int 0, .null, .null, .null, .int 0, .int 0, .int 0]))] := hD
  refine W.widen (k := 1) (n := 7) (Nat.le_of_ble_eq_true rfl) (Nat.le_of_ble_eq_true rfl) ?_
  refine lv_dup hx hb dX7_machine_17 rfl ?_
  refine lv_iload_n hx hb dX7_machine_18 rfl (lv_at hl 1 rfl) ?_
  have hPc := hP.sub (ws' := [(q_4, .inr (5, [.int 0, .null, .null, .null, .int 0, .int 0, .int 0]))]) [2] rfl
  have hDc := hD.sub (ws' := [(q_4, .inr (5, [.int 0, .null, .null, .null, .int 0, .int 0, .int 0]))]) [2] (by decide) rfl
  have hKc := hK.sub (tys' := []) [] rfl
  have hFc := va_free (wc := [(q_4, .inr (5, [.int 0, .null, .null, .null, .int 0, .int 0, .int 0]))]) hD hS hA [2] rfl
  have hZc := ((hZ.kept hS.2.1).narrow hFc)
  refine va_callv (va_runI (As := [.int p0]) (rest := [.ref q_4, .ref h0]) ⟨hx, hb, hml, hown, hts⟩ (c_X3_init l hnt dC dI a0 q_4 p0 H.size ) (cwI 1 hts (goodIn_of _ (by decide +kernel)) rfl rfl rfl (hts (.initialized RX3) (by decide +kernel)) (hts (.methodLink RX7 60 yX3_init) (by decide +kernel)) (hts (.instanceMethod yX3_init) (by decide +kernel)) rfl (by decide +kernel) ⟨Nat.le_of_ble_eq_true rfl, Nat.le_of_ble_eq_true rfl⟩) ⟨fun a U g mk q => by obtain ⟨q0, q1, qP, qK, qD, qZ⟩ := q; exact ⟨q0, q1, qP, va_K.moved (u := U) (U := U.calling g mk a) (Vm.Alike.refl U.vm) qK, qD, qZ.call⟩, fun U hU hW => ⟨rfl, by rw [hU], by rw [hU]; exact hPc, va_K.moved hW.alike hKc, hDc.weaken (fun _ _ _ _ => trivial), by rw [hU]; exact hZc.warm hW⟩⟩ rfl rfl hl.1 rfl (lv_room (Nat.le_of_ble_eq_true rfl)) dX7_machine_19 ⟨Nat.le_of_ble_eq_true rfl, Nat.le_of_ble_eq_true rfl⟩) hS (fun q _ h => hFc q h) hFc (fun u t H1 locs ht hvm hw hB hz1 hk1 hS => ?_)
  obtain ⟨w1_6, w2_7, w3_8, hP1, hK1, hD1⟩ := hB
  rw [ht] at hP1
  have hK1 := va_K.moved hvm.symm hK1
  obtain ⟨hP, hD⟩ := va_join (wr := [(qm, .inl (cM, 12, .inr (.inr (.inr (.inr (fun _ => none)))))), (h0, .inr (9, [.ref qm, .ref qt, .ref qw, .ref qc, .ref qb, .ref qg, .int 0, .int 0, .int 0, .int 0, .int 0]))]) (w1 := [(q_4, .inr (5, [.int p0, .ref w1_6, .ref w2_7, .ref w3_8, .int (-1), .int (-1), .int (-1)]))]) hP hD [2] [0, 1] rfl rfl (by decide) (by decide) hk1 hFc hP1 hD1
  have hK := (hK.sub (tys' := [(cM, .object "Haltingale$Machine")]) [0] rfl).app hK1
  generalize H1 = H at hP hS ⊢
  have hP : va_P (dC, dI) vwCl [(qm, .inl (cM, 12, .inr (.inr (.inr (.inr (fun _ => none)))))), (h0, .inr (9, [.ref qm, .ref qt, .ref qw, .ref qc, .ref qb, .ref qg, .int 0, .int 0, .int 0, .int 0, .int 0])), (q_4, .inr (5, [.int p0, .ref w1_6, .ref w2_7, .ref w3_8, .int (-1), .int (-1), .int (-1)]))] H := hP
  have hD : va_D A [(qm, .inl (cM, 12, .inr (.inr (.inr (.inr (fun _ => none)))))), (h0, .inr (9, [.ref qm, .ref qt, .ref qw, .ref qc, .ref qb, .ref qg, .int 0, .int 0, .int 0, .int 0, .int 0])), (q_4, .inr (5, [.int p0, .ref w1_6, .ref w2_7, .ref w3_8, .int (-1), .int (-1), .int (-1)]))] := hD
  have hK : va_K (dC, dI) vwCl [(cM, .object "Haltingale$Machine")] s := hK
  refine W.widen (k := 4) (n := 31) (Nat.le_of_ble_eq_true rfl) (Nat.le_of_ble_eq_true rfl) ?_
  have hPc := hP.sub (ws' := [(h0, .inr (9, [.ref qm, .ref qt, .ref qw, .ref qc, .ref qb, .ref qg, .int 0, .int 0, .int 0, .int 0, .int 0])), (qm, .inl (cM, 12, .inr (.inr (.inr (.inr (fun _ => none)))))), (q_4, .inr (5, [.int p0, .ref w1_6, .ref w2_7, .ref w3_8, .int (-1), .int (-1), .int (-1)]))]) [1, 0, 2] rfl
  have hDc := hD.sub (ws' := [(h0, .inr (9, [.ref qm, .ref qt, .ref qw, .ref qc, .ref qb, .ref qg, .int 0, .int 0, .int 0, .int 0, .int 0])), (qm, .inl (cM, 12, .inr (.inr (.inr (.inr (fun _ => none)))))), (q_4, .inr (5, [.int p0, .ref w1_6, .ref w2_7, .ref w3_8, .int (-1), .int (-1), .int (-1)]))]) [1, 0, 2] (by decide) rfl
  have hKc := hK.sub (tys' := [(cM, .object "Haltingale$Machine")]) [0] rfl
  have hFc := va_free (wc := [(h0, .inr (9, [.ref qm, .ref qt, .ref qw, .ref qc, .ref qb, .ref qg, .int 0, .int 0, .int 0, .int 0, .int 0])), (qm, .inl (cM, 12, .inr (.inr (.inr (.inr (fun _ => none)))))), (q_4, .inr (5, [.int p0, .ref w1_6, .ref w2_7, .ref w3_8, .int (-1), .int (-1), .int (-1)]))]) hD hS hA [1, 0, 2] rfl
  have hZc := ((hZ.kept hS.2.1).narrow hFc)
  refine va_calli (va_runV (As := [.ref q_4]) (rest := []) ⟨hx, hb, hml, hown, hts⟩ (c_X7_append l hnt dC dI a0 h0 qm qt qw qc qb qg q_4 cM p0 w1_6 w2_7 w3_8 H.size ) (cwV 1 hts (goodIn_of _ (by decide +kernel)) rfl rfl rfl (by decide +kernel) ⟨Nat.le_of_ble_eq_true rfl, Nat.le_of_ble_eq_true rfl⟩) ⟨fun a U g mk q => by obtain ⟨q0, q1, qP, qK, qD, qZ⟩ := q; exact ⟨q0, q1, qP, va_K.moved (u := U) (U := U.calling g mk a) (Vm.Alike.refl U.vm) qK, qD, qZ.call⟩, va_recv hKc hPc (ci := 9) (q0 := 0) rfl rfl, fun U hU hW => ⟨rfl, by rw [hU], by rw [hU]; exact hPc, va_K.moved hW.alike hKc, hDc.weaken (fun _ _ _ _ => trivial), by rw [hU]; exact hZc.warm hW⟩⟩ rfl rfl hl.1 rfl (lv_room (Nat.le_of_ble_eq_true rfl)) dX7_machine_22 ⟨Nat.le_of_ble_eq_true rfl, Nat.le_of_ble_eq_true rfl⟩) hS (fun q _ h => hFc q h) hFc (fun r_9 u t H1 locs ht hvm hw hB hz1 hk1 hS => ?_)
  obtain ⟨hP1, hK1, hD1⟩ := hB
  rw [ht] at hP1
  have hK1 := va_K.moved hvm.symm hK1
  obtain ⟨hP, hD⟩ := va_join (wr := []) (w1 := []) hP hD [1, 0, 2] [] rfl rfl (by decide) (by decide) hk1 hFc hP1 hD1
  have hK := (hK.sub (tys' := [(cM, .object "Haltingale$Machine")]) [0] rfl).app hK1
  generalize H1 = H at hP hS ⊢
  have hP : va_P (dC, dI) vwCl [] H := hP
  have hD : va_D A [] := hD
  have hK : va_K (dC, dI) vwCl [(cM, .object "Haltingale$Machine")] s := hK
  refine W.widen (k := 4) (n := 31) (Nat.le_of_ble_eq_true rfl) (Nat.le_of_ble_eq_true rfl) ?_
  obtain rfl : r_9 = 0 := hw
  have hP9 := hP.sub (ws' := []) [] rfl
  have hD9 := hD.sub (ws' := []) [] (by decide) rfl
  have hK9 := hK.sub (tys' := []) [] rfl
  refine W.widen (k := 4) (n := 31) (Nat.le_of_ble_eq_true rfl) (Nat.le_of_ble_eq_true rfl) ?_
  exact W.iret (v := 0) hx hb hr (fun t ht hW => ⟨⟨0, (), rfl, rfl, ⟨by rw [ht]; exact hP9, va_K.moved hW.alike hK9, hD9⟩⟩, hS.F ht⟩) hS.2.2 dX7_machine_25

def zs_c_X5_init : List Cond := .code yX5_init cX5_init 4 none :: (([.methodLink RX5 1 objectInit, .instanceMethod objectInit, .code objectInit ⟨#[0xb1]⟩ 1 none, .fieldLink RX5 7 "Haltingale$Tag" "cut" "I", .fieldLink RX5 13 "Haltingale$Tag" "zero" "I", .fieldLink RX5 16 "Haltingale$Tag" "one" "I"] : List Cond) ++ wsX50)
set_option maxHeartbeats 4000000 in
set_option maxRecDepth 100000 in
/-- Tag(..) -/
theorem c_X5_init (l : Launch) (hnt : l.stackTraces = false) (dC : Nat → ClassId) (dI : Nat → Nat → Nat) (a0 : Nat) (h0 : Nat) (p0 : Int32) (p1 : Int32) (p2 : Int32) (sz : Nat)  : Met l yX5_init zs_c_X5_init ({ frames := 1, cells := 0, slots := 0, locals := 12 }) (va_Pc [.ref h0, .int p0, .int p1, .int p2] (fun U => U.heap.size = sz ∧ va_P (dC, dI) vwCl [(h0, .inr (7, [.int 0, .int 0, .int 0]))] U.heap ∧ va_K (dC, dI) vwCl [] U ∧ va_D (fun _ => True) [(h0, .inr (7, [.int 0, .int 0, .int 0]))] ∧ zB a0 (va_A [(h0, .inr (7, [.int 0, .int 0, .int 0]))] sz) U U.heap)) (va_Qv (fun _ : Unit => True) (fun _ t => va_P (dC, dI) vwCl [(h0, .inr (7, [.int p0, .int p1, .int p2]))] t.heap ∧ va_K (dC, dI) vwCl [] t ∧ va_D (va_A [(h0, .inr (7, [.int 0, .int 0, .int 0]))] sz) [(h0, .inr (7, [.int p0, .int p1, .int p2]))]) (va_A [(h0, .inr (7, [.int 0, .int 0, .int 0]))] sz)) 0 0 (va_A [(h0, .inr (7, [.int 0, .int 0, .int 0]))] sz) := by
  refine Met.ofW (cc := cX5_init) (maxL := 4) (ret := none) (by decide) rfl ?_
  intro p e s m args below meth c s₁ B hml hv
  obtain ⟨rfl, hsz, hP, hK, hD0, hZ⟩ := hv
  have hx := B.exec
  have hb := B.bytes
  have hr := B.returns
  have hts := atoms_spec (ws := zs_c_X5_init) B.pre
  have hown : s.vm.findClass RX5 = some m.cls := findClass_of_methodNamed B.named
  have hlocks := B.notSynchronized
  have hin : meth.name = "<init>" := (name_of_methodNamed B.named B.method).1
  have hiX5 : ∀ w ∈ wsX50, w ∈ zs_c_X5_init := by decide +kernel
  subst hsz
  have hD := hD0.self (sz := s.heap.size)
  generalize hAe : va_A [(h0, .inr (7, [.int 0, .int 0, .int 0]))] s.heap.size = A at hD hZ ⊢
  have hA : ∀ q : Nat, s.heap.size ≤ q → A q := fun q h => by rw [← hAe]; exact Or.inr h
  have hS : va_S A s.heap s.heap [] := va_S.rf
  have hl := lv_entry ([.ref h0, .int p0, .int p1, .int p2]) (n := 4) (Nat.le_of_ble_eq_true rfl)
  rw [lg_entry_eq]
  generalize (lg_sl ([.ref h0, .int p0, .int p1, .int p2]) ++ List.replicate (4 - (lg_sl ([.ref h0, .int p0, .int p1, .int p2])).length) Slot.unset).toArray = ls at hl ⊢
  have hl : lv_has ls 4 [(0, .ref h0), (1, .int p0), (2, .int p1), (3, .int p2)] := hl
  refine lv_aload_n hx hb dX5_init_0 rfl (lv_at hl 0 rfl) ?_
  refine W.objInit hx hb hown (hts (.methodLink RX5 1 objectInit) (by decide +kernel)) (hts (.instanceMethod objectInit) (by decide +kernel)) (hts (.code objectInit ⟨#[0xb1]⟩ 1 none) (by decide +kernel)) rfl (by rw [hml]; exact hl.1) rfl dX5_init_1 (Nat.le_of_ble_eq_true rfl) (Nat.le_of_ble_eq_true rfl) ?_
  refine W.eq (g2 := F0 m 4 ls []) rfl ?_
  refine lv_aload_n hx hb dX5_init_4 rfl (lv_at hl 0 rfl) ?_
  refine lv_iload_n hx hb dX5_init_5 rfl (lv_at hl 1 rfl) ?_
  refine va_putF (D := (dC, dI)) (ci := 7) (v := .int p0) (ty := .int) (C := RX5) (T := TX5) (N := 3) hx hb hts hiX5 tyX5 tyX5_ok nmX5 hown hK hP hD hS 0 rfl rfl 0 (by decide) (hts (.fieldLink RX5 7 "Haltingale$Tag" "cut" "I") (by decide +kernel)) (fun _ h9 => h9) rfl hin rfl (by decide +kernel) rfl rfl (Nat.le_of_ble_eq_true rfl) dX5_init_6 (fun H locs hP hD hS => ?_)
  have hP : va_P (dC, dI) vwCl [(h0, .inr (7, [.int p0, .int 0, .int 0]))] H := hP
  have hD : va_D A [(h0, .inr (7, [.int p0, .int 0, .int 0]))] := hD
  refine lv_aload_n hx hb dX5_init_9 rfl (lv_at hl 0 rfl) ?_
  refine lv_iload_n hx hb dX5_init_10 rfl (lv_at hl 2 rfl) ?_
  refine va_putF (D := (dC, dI)) (ci := 7) (v := .int p1) (ty := .int) (C := RX5) (T := TX5) (N := 3) hx hb hts hiX5 tyX5 tyX5_ok nmX5 hown hK hP hD hS 0 rfl rfl 1 (by decide) (hts (.fieldLink RX5 13 "Haltingale$Tag" "zero" "I") (by decide +kernel)) (fun _ h9 => h9) rfl hin rfl (by decide +kernel) rfl rfl (Nat.le_of_ble_eq_true rfl) dX5_init_11 (fun H locs hP hD hS => ?_)
  have hP : va_P (dC, dI) vwCl [(h0, .inr (7, [.int p0, .int p1, .int 0]))] H := hP
  have hD : va_D A [(h0, .inr (7, [.int p0, .int p1, .int 0]))] := hD
  refine lv_aload_n hx hb dX5_init_14 rfl (lv_at hl 0 rfl) ?_
  refine lv_iload_n hx hb dX5_init_15 rfl (lv_at hl 3 rfl) ?_
  refine va_putF (D := (dC, dI)) (ci := 7) (v := .int p2) (ty := .int) (C := RX5) (T := TX5) (N := 3) hx hb hts hiX5 tyX5 tyX5_ok nmX5 hown hK hP hD hS 0 rfl rfl 2 (by decide) (hts (.fieldLink RX5 16 "Haltingale$Tag" "one" "I") (by decide +kernel)) (fun _ h9 => h9) rfl hin rfl (by decide +kernel) rfl rfl (Nat.le_of_ble_eq_true rfl) dX5_init_16 (fun H locs hP hD hS => ?_)
  have hP : va_P (dC, dI) vwCl [(h0, .inr (7, [.int p0, .int p1, .int p2]))] H := hP
  have hD : va_D A [(h0, .inr (7, [.int p0, .int p1, .int p2]))] := hD
  have hP9 := hP.sub (ws' := [(h0, .inr (7, [.int p0, .int p1, .int p2]))]) [0] rfl
  have hD9 := hD.sub (ws' := [(h0, .inr (7, [.int p0, .int p1, .int p2]))]) [0] (by decide) rfl
  have hK9 := hK.sub (tys' := []) [] rfl
  refine W.widen (k := 0) (n := 0) (Nat.le_of_ble_eq_true rfl) (Nat.le_of_ble_eq_true rfl) ?_
  exact W.vret hx hb hr (fun t ht hW => ⟨⟨(), rfl, trivial, ⟨by rw [ht]; exact hP9, va_K.moved hW.alike hK9, hD9⟩⟩, hS.F ht⟩) hS.2.2 dX5_init_19

def zs_c_X7_tag_ok : List Cond := .code yX7_tag cX7_tag 4 (some .int) :: (([.code yX7_isWithin cX7_isWithin 3 (some .boolean), .methodLink RX7 49 yX7_isWithin, .static yX7_isWithin, .initialized RX7, .code yX7_require cX7_require 1 none, .methodLink RX7 53 yX7_require, .static yX7_require, .fieldLink RX7 122 "Haltingale" "tagCount" "I", .fieldLink RX7 17 "Haltingale" "tags" "[LHaltingale$Tag;", .classLink RX7 15 RX5, .instantiable RX5 3, .initialized RX5, .code yX5_init cX5_init 4 none, .methodLink RX5 1 objectInit, .instanceMethod objectInit, .code objectInit ⟨#[0xb1]⟩ 1 none, .fieldLink RX5 7 "Haltingale$Tag" "cut" "I", .fieldLink RX5 13 "Haltingale$Tag" "zero" "I", .fieldLink RX5 16 "Haltingale$Tag" "one" "I", .methodLink RX7 127 yX5_init, .instanceMethod yX5_init] : List Cond) ++ wsX70 ++ wsX50)
set_option maxHeartbeats 4000000 in
set_option maxRecDepth 100000 in
/-- tag, the first -/
theorem c_X7_tag_ok (l : Launch) (hnt : l.stackTraces = false) (dC : Nat → ClassId) (dI : Nat → Nat → Nat) (a0 : Nat) (h0 : Nat) (qm : Nat) (qt : Nat) (qw : Nat) (qc : Nat) (qb : Nat) (qg : Nat) (cT : ClassId) (p0 : Int32) (p1 : Int32) (p2 : Int32) (sz : Nat) (hp0 : zw p0 1 3 = 1) (hp1 : zw p1 1 63 = 1) (hp2 : zw p2 1 63 = 1) : Met l yX7_tag zs_c_X7_tag_ok ({ frames := 2, cells := 1, slots := 3, locals := 35 }) (va_Pc [.ref h0, .int p0, .int p1, .int p2] (fun U => U.heap.size = sz ∧ va_P (dC, dI) vwCl [(h0, .inr (9, [.ref qm, .ref qt, .ref qw, .ref qc, .ref qb, .ref qg, .int 0, .int 0, .int 0, .int 0, .int 0])), (qt, .inl (cT, 4, .inr (.inr (.inr (.inr (fun _ => none))))))] U.heap ∧ va_K (dC, dI) vwCl [(cT, .object "Haltingale$Tag")] U ∧ va_D (fun _ => True) [(h0, .inr (9, [.ref qm, .ref qt, .ref qw, .ref qc, .ref qb, .ref qg, .int 0, .int 0, .int 0, .int 0, .int 0])), (qt, .inl (cT, 4, .inr (.inr (.inr (.inr (fun _ => none))))))] ∧ zB a0 (va_A [(h0, .inr (9, [.ref qm, .ref qt, .ref qw, .ref qc, .ref qb, .ref qg, .int 0, .int 0, .int 0, .int 0, .int 0])), (qt, .inl (cT, 4, .inr (.inr (.inr (.inr (fun _ => none))))))] sz) U U.heap)) (va_Qi (fun (r : Int32) (_ : Unit) => r = 0) (fun _ t => va_P (dC, dI) vwCl [] t.heap ∧ va_K (dC, dI) vwCl [] t ∧ va_D (va_A [(h0, .inr (9, [.ref qm, .ref qt, .ref qw, .ref qc, .ref qb, .ref qg, .int 0, .int 0, .int 0, .int 0, .int 0])), (qt, .inl (cT, 4, .inr (.inr (.inr (.inr (fun _ => none))))))] sz) []) (va_A [(h0, .inr (9, [.ref qm, .ref qt, .ref qw, .ref qc, .ref qb, .ref qg, .int 0, .int 0, .int 0, .int 0, .int 0])), (qt, .inl (cT, 4, .inr (.inr (.inr (.inr (fun _ => none))))))] sz)) 1 3 (va_A [(h0, .inr (9, [.ref qm, .ref qt, .ref qw, .ref qc, .ref qb, .ref qg, .int 0, .int 0, .int 0, .int 0, .int 0])), (qt, .inl (cT, 4, .inr (.inr (.inr (.inr (fun _ => none))))))] sz) := by
  refine Met.ofW (cc := cX7_tag) (maxL := 4) (ret := (some .int)) (by decide) rfl ?_
  intro p e s m args below meth c s₁ B hml hv
  obtain ⟨rfl, hsz, hP, hK, hD0, hZ⟩ := hv
  have hx := B.exec
  have hb := B.bytes
  have hr := B.returns
  have hts := atoms_spec (ws := zs_c_X7_tag_ok) B.pre
  have hown : s.vm.findClass RX7 = some m.cls := findClass_of_methodNamed B.named
  have hlocks := B.notSynchronized
  have hiX5 : ∀ w ∈ wsX50, w ∈ zs_c_X7_tag_ok := by decide +kernel
  have hiX7 : ∀ w ∈ wsX70, w ∈ zs_c_X7_tag_ok := by decide +kernel
  subst hsz
  have hD := hD0.self (sz := s.heap.size)
  generalize hAe : va_A [(h0, .inr (9, [.ref qm, .ref qt, .ref qw, .ref qc, .ref qb, .ref qg, .int 0, .int 0, .int 0, .int 0, .int 0])), (qt, .inl (cT, 4, .inr (.inr (.inr (.inr (fun _ => none))))))] s.heap.size = A at hD hZ ⊢
  have hA : ∀ q : Nat, s.heap.size ≤ q → A q := fun q h => by rw [← hAe]; exact Or.inr h
  have hS : va_S A s.heap s.heap [] := va_S.rf
  have hl := lv_entry ([.ref h0, .int p0, .int p1, .int p2]) (n := 4) (Nat.le_of_ble_eq_true rfl)
  rw [lg_entry_eq]
  generalize (lg_sl ([.ref h0, .int p0, .int p1, .int p2]) ++ List.replicate (4 - (lg_sl ([.ref h0, .int p0, .int p1, .int p2])).length) Slot.unset).toArray = ls at hl ⊢
  have hl : lv_has ls 4 [(0, .ref h0), (1, .int p0), (2, .int p1), (3, .int p2)] := hl
  refine lv_iload_n hx hb dX7_tag_0 rfl (lv_at hl 1 rfl) ?_
  refine lv_iconst (v := 1) hx hb dX7_tag_1 (by decide) ?_
  refine lv_iconst (v := 3) hx hb dX7_tag_2 (by decide) ?_
  have hPc := hP.sub (ws' := []) [] rfl
  have hDc := hD.sub (ws' := []) [] (by decide) rfl
  have hKc := hK.sub (tys' := []) [] rfl
  have hFc := va_free (wc := []) hD hS hA [] rfl
  have hZc := ((hZ.kept hS.2.1).narrow hFc)
  refine va_calli (va_runS (As := [.int p0, .int 1, .int 3]) (rest := []) ⟨hx, hb, hml, hown, hts⟩ (c_X7_isWithin l hnt dC dI a0 p0 1 3 s.heap.size ) (va_cwS 3 hts (goodIn_of _ (by decide +kernel)) rfl rfl rfl (by decide +kernel) ⟨Nat.le_of_ble_eq_true rfl, Nat.le_of_ble_eq_true rfl⟩) ⟨fun a U g mk q => by obtain ⟨q0, q1, qP, qK, qD, qZ⟩ := q; exact ⟨q0, q1, qP, va_K.moved (u := U) (U := U.calling g mk a) (Vm.Alike.refl U.vm) qK, qD, qZ.call⟩, fun U hU hW => ⟨rfl, by rw [hU], by rw [hU]; exact hPc, va_K.moved hW.alike hKc, hDc.weaken (fun _ _ _ _ => trivial), by rw [hU]; exact hZc.warm hW⟩⟩ rfl rfl hl.1 rfl (lv_room (Nat.le_of_ble_eq_true rfl)) dX7_tag_3 ⟨Nat.le_of_ble_eq_true rfl, Nat.le_of_ble_eq_true rfl⟩) hS (fun q _ h => hFc q h) hFc (fun r_1 u t H1 locs ht hvm hw hB hz1 hk1 hS => ?_)
  obtain ⟨hP1, hK1, hD1⟩ := hB
  rw [ht] at hP1
  have hK1 := va_K.moved hvm.symm hK1
  obtain ⟨hP, hD⟩ := va_join (wr := [(h0, .inr (9, [.ref qm, .ref qt, .ref qw, .ref qc, .ref qb, .ref qg, .int 0, .int 0, .int 0, .int 0, .int 0])), (qt, .inl (cT, 4, .inr (.inr (.inr (.inr (fun _ => none))))))]) (w1 := []) hP hD [] [0, 1] rfl rfl (by decide) (by decide) hk1 hFc hP1 hD1
  have hK := (hK.sub (tys' := [(cT, .object "Haltingale$Tag")]) [0] rfl).app hK1
  generalize H1 = H at hP hS ⊢
  have hP : va_P (dC, dI) vwCl [(h0, .inr (9, [.ref qm, .ref qt, .ref qw, .ref qc, .ref qb, .ref qg, .int 0, .int 0, .int 0, .int 0, .int 0])), (qt, .inl (cT, 4, .inr (.inr (.inr (.inr (fun _ => none))))))] H := hP
  have hD : va_D A [(h0, .inr (9, [.ref qm, .ref qt, .ref qw, .ref qc, .ref qb, .ref qg, .int 0, .int 0, .int 0, .int 0, .int 0])), (qt, .inl (cT, 4, .inr (.inr (.inr (.inr (fun _ => none))))))] := hD
  have hK : va_K (dC, dI) vwCl [(cT, .object "Haltingale$Tag")] s := hK
  refine W.widen (k := 0) (n := 0) (Nat.le_of_ble_eq_true rfl) (Nat.le_of_ble_eq_true rfl) ?_
  obtain rfl : r_1 = 1 := hw.trans (hp0)
  have hPc := hP.sub (ws' := []) [] rfl
  have hDc := hD.sub (ws' := []) [] (by decide) rfl
  have hKc := hK.sub (tys' := []) [] rfl
  have hFc := va_free (wc := []) hD hS hA [] rfl
  have hZc := ((hZ.kept hS.2.1).narrow hFc)
  refine va_callv (va_runS (As := [.int 1]) (rest := []) ⟨hx, hb, hml, hown, hts⟩ (c_X7_require_ok l hnt dC dI a0  H.size ) (va_cwS 1 hts (goodIn_of _ (by decide +kernel)) rfl rfl rfl (by decide +kernel) ⟨Nat.le_of_ble_eq_true rfl, Nat.le_of_ble_eq_true rfl⟩) ⟨fun a U g mk q => by obtain ⟨q0, q1, qP, qK, qD, qZ⟩ := q; exact ⟨q0, q1, qP, va_K.moved (u := U) (U := U.calling g mk a) (Vm.Alike.refl U.vm) qK, qD, qZ.call⟩, fun U hU hW => ⟨rfl, by rw [hU], by rw [hU]; exact hPc, va_K.moved hW.alike hKc, hDc.weaken (fun _ _ _ _ => trivial), by rw [hU]; exact hZc.warm hW⟩⟩ rfl rfl hl.1 rfl (lv_room (Nat.le_of_ble_eq_true rfl)) dX7_tag_6 ⟨Nat.le_of_ble_eq_true rfl, Nat.le_of_ble_eq_true rfl⟩) hS (fun q _ h => hFc q h) hFc (fun u t H1 locs ht hvm hw hB hz1 hk1 hS => ?_)
  obtain ⟨hP1, hK1, hD1⟩ := hB
  rw [ht] at hP1
  have hK1 := va_K.moved hvm.symm hK1
  obtain ⟨hP, hD⟩ := va_join (wr := [(h0, .inr (9, [.ref qm, .ref qt, .ref qw, .ref qc, .ref qb, .ref qg, .int 0, .int 0, .int 0, .int 0, .int 0])), (qt, .inl (cT, 4, .inr (.inr (.inr (.inr (fun _ => none))))))]) (w1 := []) hP hD [] [0, 1] rfl rfl (by decide) (by decide) hk1 hFc hP1 hD1
  have hK := (hK.sub (tys' := [(cT, .object "Haltingale$Tag")]) [0] rfl).app hK1
  generalize H1 = H at hP hS ⊢
  have hP : va_P (dC, dI) vwCl [(h0, .inr (9, [.ref qm, .ref qt, .ref qw, .ref qc, .ref qb, .ref qg, .int 0, .int 0, .int 0, .int 0, .int 0])), (qt, .inl (cT, 4, .inr (.inr (.inr (.inr (fun _ => none))))))] H := hP
  have hD : va_D A [(h0, .inr (9, [.ref qm, .ref qt, .ref qw, .ref qc, .ref qb, .ref qg, .int 0, .int 0, .int 0, .int 0, .int 0])), (qt, .inl (cT, 4, .inr (.inr (.inr (.inr (fun _ => none))))))] := hD
  have hK : va_K (dC, dI) vwCl [(cT, .object "Haltingale$Tag")] s := hK
  refine W.widen (k := 0) (n := 0) (Nat.le_of_ble_eq_true rfl) (Nat.le_of_ble_eq_true rfl) ?_
  refine lv_iload_n hx hb dX7_tag_9 rfl (lv_at hl 2 rfl) ?_
  refine lv_iconst (v := 1) hx hb dX7_tag_10 (by decide) ?_
  refine lv_bipush (v := 63) hx hb dX7_tag_11 (by decide) ?_
  have hPc := hP.sub (ws' := []) [] rfl
  have hDc := hD.sub (ws' := []) [] (by decide) rfl
  have hKc := hK.sub (tys' := []) [] rfl
  have hFc := va_free (wc := []) hD hS hA [] rfl
  have hZc := ((hZ.kept hS.2.1).narrow hFc)
  refine va_calli (va_runS (As := [.int p1, .int 1, .int 63]) (rest := []) ⟨hx, hb, hml, hown, hts⟩ (c_X7_isWithin l hnt dC dI a0 p1 1 63 H.size ) (va_cwS 3 hts (goodIn_of _ (by decide +kernel)) rfl rfl rfl (by decide +kernel) ⟨Nat.le_of_ble_eq_true rfl, Nat.le_of_ble_eq_true rfl⟩) ⟨fun a U g mk q => by obtain ⟨q0, q1, qP, qK, qD, qZ⟩ := q; exact ⟨q0, q1, qP, va_K.moved (u := U) (U := U.calling g mk a) (Vm.Alike.refl U.vm) qK, qD, qZ.call⟩, fun U hU hW => ⟨rfl, by rw [hU], by rw [hU]; exact hPc, va_K.moved hW.alike hKc, hDc.weaken (fun _ _ _ _ => trivial), by rw [hU]; exact hZc.warm hW⟩⟩ rfl rfl hl.1 rfl (lv_room (Nat.le_of_ble_eq_true rfl)) dX7_tag_13 ⟨Nat.le_of_ble_eq_true rfl, Nat.le_of_ble_eq_true rfl⟩) hS (fun q _ h => hFc q h) hFc (fun r_3 u t H1 locs ht hvm hw hB hz1 hk1 hS => ?_)
  obtain ⟨hP1, hK1, hD1⟩ := hB
  rw [ht] at hP1
  have hK1 := va_K.moved hvm.symm hK1
  obtain ⟨hP, hD⟩ := va_join (wr := [(h0, .inr (9, [.ref qm, .ref qt, .ref qw, .ref qc, .ref qb, .ref qg, .int 0, .int 0, .int 0, .int 0, .int 0])), (qt, .inl (cT, 4, .inr (.inr (.inr (.inr (fun _ => none))))))]) (w1 := []) hP hD [] [0, 1] rfl rfl (by decide) (by decide) hk1 hFc hP1 hD1
  have hK := (hK.sub (tys' := [(cT, .object "Haltingale$Tag")]) [0] rfl).app hK1
  generalize H1 = H at hP hS ⊢
  have hP : va_P (dC, dI) vwCl [(h0, .inr (9, [.ref qm, .ref qt, .ref qw, .ref qc, .ref qb, .ref qg, .int 0, .int 0, .int 0, .int 0, .int 0])), (qt, .inl (cT, 4, .inr (.inr (.inr (.inr (fun _ => none))))))] H := hP
  have hD : va_D A [(h0, .inr (9, [.ref qm, .ref qt, .ref qw, .ref qc, .ref qb, .ref qg, .int 0, .int 0, .int 0, .int 0, .int 0])), (qt, .inl (cT, 4, .inr (.inr (.inr (.inr (fun _ => none))))))] := hD
  have hK : va_K (dC, dI) vwCl [(cT, .object "Haltingale$Tag")] s := hK
  refine W.widen (k := 0) (n := 0) (Nat.le_of_ble_eq_true rfl) (Nat.le_of_ble_eq_true rfl) ?_
  obtain rfl : r_3 = 1 := hw.trans (hp1)
  refine lv_if_eq (tgt := 33) hx hb dX7_tag_16 (by decide) (fun c_4 => ?_) (fun c_4 => ?_)
  · (first | exact absurd c_4 (by decide) | exact absurd (by decide) c_4)
  refine lv_iload_n hx hb dX7_tag_19 rfl (lv_at hl 3 rfl) ?_
  refine lv_iconst (v := 1) hx hb dX7_tag_20 (by decide) ?_
  refine lv_bipush (v := 63) hx hb dX7_tag_21 (by decide) ?_
  have hPc := hP.sub (ws' := []) [] rfl
  have hDc := hD.sub (ws' := []) [] (by decide) rfl
  have hKc := hK.sub (tys' := []) [] rfl
  have hFc := va_free (wc := []) hD hS hA [] rfl
  have hZc := ((hZ.kept hS.2.1).narrow hFc)
  refine va_calli (va_runS (As := [.int p2, .int 1, .int 63]) (rest := []) ⟨hx, hb, hml, hown, hts⟩ (c_X7_isWithin l hnt dC dI a0 p2 1 63 H.size ) (va_cwS 3 hts (goodIn_of _ (by decide +kernel)) rfl rfl rfl (by decide +kernel) ⟨Nat.le_of_ble_eq_true rfl, Nat.le_of_ble_eq_true rfl⟩) ⟨fun a U g mk q => by obtain ⟨q0, q1, qP, qK, qD, qZ⟩ := q; exact ⟨q0, q1, qP, va_K.moved (u := U) (U := U.calling g mk a) (Vm.Alike.refl U.vm) qK, qD, qZ.call⟩, fun U hU hW => ⟨rfl, by rw [hU], by rw [hU]; exact hPc, va_K.moved hW.alike hKc, hDc.weaken (fun _ _ _ _ => trivial), by rw [hU]; exact hZc.warm hW⟩⟩ rfl rfl hl.1 rfl (lv_room (Nat.le_of_ble_eq_true rfl)) dX7_tag_23 ⟨Nat.le_of_ble_eq_true rfl, Nat.le_of_ble_eq_true rfl⟩) hS (fun q _ h => hFc q h) hFc (fun r_5 u t H1 locs ht hvm hw hB hz1 hk1 hS => ?_)
  obtain ⟨hP1, hK1, hD1⟩ := hB
  rw [ht] at hP1
  have hK1 := va_K.moved hvm.symm hK1
  obtain ⟨hP, hD⟩ := va_join (wr := [(h0, .inr (9, [.ref qm, .ref qt, .ref qw, .ref qc, .ref qb, .ref qg, .int 0, .int 0, .int 0, .int 0, .int 0])), (qt, .inl (cT, 4, .inr (.inr (.inr (.inr (fun _ => none))))))]) (w1 := []) hP hD [] [0, 1] rfl rfl (by decide) (by decide) hk1 hFc hP1 hD1
  have hK := (hK.sub (tys' := [(cT, .object "Haltingale$Tag")]) [0] rfl).app hK1
  generalize H1 = H at hP hS ⊢
  have hP : va_P (dC, dI) vwCl [(h0, .inr (9, [.ref qm, .ref qt, .ref qw, .ref qc, .ref qb, .ref qg, .int 0, .int 0, .int 0, .int 0, .int 0])), (qt, .inl (cT, 4, .inr (.inr (.inr (.inr (fun _ => none))))))] H := hP
  have hD : va_D A [(h0, .inr (9, [.ref qm, .ref qt, .ref qw, .ref qc, .ref qb, .ref qg, .int 0, .int 0, .int 0, .int 0, .int 0])), (qt, .inl (cT, 4, .inr (.inr (.inr (.inr (fun _ => none))))))] := hD
  have hK : va_K (dC, dI) vwCl [(cT, .object "Haltingale$Tag")] s := hK
  refine W.widen (k := 0) (n := 0) (Nat.le_of_ble_eq_true rfl) (Nat.le_of_ble_eq_true rfl) ?_
  obtain rfl : r_5 = 1 := hw.trans (hp2)
  refine lv_if_eq (tgt := 33) hx hb dX7_tag_26 (by decide) (fun c_6 => ?_) (fun c_6 => ?_)
  · (first | exact absurd c_6 (by decide) | exact absurd (by decide) c_6)
  refine lv_iconst (v := 1) hx hb dX7_tag_29 (by decide) ?_
  refine lv_goto (tgt := 34) hx hb dX7_tag_30 (by decide) ?_
  have hPc := hP.sub (ws' := []) [] rfl
  have hDc := hD.sub (ws' := []) [] (by decide) rfl
  have hKc := hK.sub (tys' := []) [] rfl
  have hFc := va_free (wc := []) hD hS hA [] rfl
  have hZc := ((hZ.kept hS.2.1).narrow hFc)
  refine va_callv (va_runS (As := [.int 1]) (rest := []) ⟨hx, hb, hml, hown, hts⟩ (c_X7_require_ok l hnt dC dI a0  H.size ) (va_cwS 1 hts (goodIn_of _ (by decide +kernel)) rfl rfl rfl (by decide +kernel) ⟨Nat.le_of_ble_eq_true rfl, Nat.le_of_ble_eq_true rfl⟩) ⟨fun a U g mk q => by obtain ⟨q0, q1, qP, qK, qD, qZ⟩ := q; exact ⟨q0, q1, qP, va_K.moved (u := U) (U := U.calling g mk a) (Vm.Alike.refl U.vm) qK, qD, qZ.call⟩, fun U hU hW => ⟨rfl, by rw [hU], by rw [hU]; exact hPc, va_K.moved hW.alike hKc, hDc.weaken (fun _ _ _ _ => trivial), by rw [hU]; exact hZc.warm hW⟩⟩ rfl rfl hl.1 rfl (lv_room (Nat.le_of_ble_eq_true rfl)) dX7_tag_34 ⟨Nat.le_of_ble_eq_true rfl, Nat.le_of_ble_eq_true rfl⟩) hS (fun q _ h => hFc q h) hFc (fun u t H1 locs ht hvm hw hB hz1 hk1 hS => ?_)
  obtain ⟨hP1, hK1, hD1⟩ := hB
  rw [ht] at hP1
  have hK1 := va_K.moved hvm.symm hK1
  obtain ⟨hP, hD⟩ := va_join (wr := [(h0, .inr (9, [.ref qm, .ref qt, .ref qw, .ref qc, .ref qb, .ref qg, .int 0, .int 0, .int 0, .int 0, .int 0])), (qt, .inl (cT, 4, .inr (.inr (.inr (.inr (fun _ => none))))))]) (w1 := []) hP hD [] [0, 1] rfl rfl (by decide) (by decide) hk1 hFc hP1 hD1
  have hK := (hK.sub (tys' := [(cT, .object "Haltingale$Tag")]) [0] rfl).app hK1
  generalize H1 = H at hP hS ⊢
  have hP : va_P (dC, dI) vwCl [(h0, .inr (9, [.ref qm, .ref qt, .ref qw, .ref qc, .ref qb, .ref qg, .int 0, .int 0, .int 0, .int 0, .int 0])), (qt, .inl (cT, 4, .inr (.inr (.inr (.inr (fun _ => none))))))] H := hP
  have hD : va_D A [(h0, .inr (9, [.ref qm, .ref qt, .ref qw, .ref qc, .ref qb, .ref qg, .int 0, .int 0, .int 0, .int 0, .int 0])), (qt, .inl (cT, 4, .inr (.inr (.inr (.inr (fun _ => none))))))] := hD
  have hK : va_K (dC, dI) vwCl [(cT, .object "Haltingale$Tag")] s := hK
  refine W.widen (k := 0) (n := 0) (Nat.le_of_ble_eq_true rfl) (Nat.le_of_ble_eq_true rfl) ?_
  refine lv_aload_n hx hb dX7_tag_37 rfl (lv_at hl 0 rfl) ?_
  refine va_get (D := (dC, dI)) (ci := 9) (v := .int 0) (C := RX7) (T := TX7) (N := 11) hx hb hts hiX7 hown hK hP 0 rfl rfl 7 (by decide) (hts (.fieldLink RX7 122 "Haltingale" "tagCount" "I") (by decide +kernel)) (fun _ h9 => h9) rfl dX7_tag_38 ?_
  refine lv_if_lt (tgt := 52) hx hb dX7_tag_41 (by decide) (fun c_8 => ?_) (fun c_8 => ?_)
  · (first | exact absurd c_8 (by decide) | exact absurd (by decide) c_8)
  refine lv_aload_n hx hb dX7_tag_44 rfl (lv_at hl 0 rfl) ?_
  refine va_get (D := (dC, dI)) (ci := 9) (v := .int 0) (C := RX7) (T := TX7) (N := 11) hx hb hts hiX7 hown hK hP 0 rfl rfl 7 (by decide) (hts (.fieldLink RX7 122 "Haltingale" "tagCount" "I") (by decide +kernel)) (fun _ h9 => h9) rfl dX7_tag_45 ?_
  refine lv_iconst (v := 4) hx hb dX7_tag_48 (by decide) ?_
  refine lv_icmp_lt (tgt := 62) hx hb dX7_tag_49 (by decide) (fun c_9 => ?_) (fun c_9 => ?_)
  rotate_left
  · (first | exact absurd c_9 (by decide) | exact absurd (by decide) c_9)
  refine lv_aload_n hx hb dX7_tag_62 rfl (lv_at hl 0 rfl) ?_
  refine va_get (D := (dC, dI)) (ci := 9) (v := .ref qt) (C := RX7) (T := TX7) (N := 11) hx hb hts hiX7 hown hK hP 0 rfl rfl 1 (by decide) (hts (.fieldLink RX7 17 "Haltingale" "tags" "[LHaltingale$Tag;") (by decide +kernel)) (fun _ h9 => h9) rfl dX7_tag_63 ?_
  refine lv_aload_n hx hb dX7_tag_66 rfl (lv_at hl 0 rfl) ?_
  refine va_get (D := (dC, dI)) (ci := 9) (v := .int 0) (C := RX7) (T := TX7) (N := 11) hx hb hts hiX7 hown hK hP 0 rfl rfl 7 (by decide) (hts (.fieldLink RX7 122 "Haltingale" "tagCount" "I") (by decide +kernel)) (fun _ h9 => h9) rfl dX7_tag_67 ?_
  refine va_new (ci := 7) (fs := [.int 0, .int 0, .int 0]) (C := RX5) (T := TX5) (N := 3) hx hb hts hiX5 tyX5 tyX5_ok hown (hts (.classLink RX7 15 RX5) (by decide +kernel)) (hts (.instantiable RX5 3) (by decide +kernel)) (hts (.initialized RX5) (by decide +kernel)) hK hP hD hS hA rfl (fun j hj => by rcases (show j = 0 ∨ j = 1 ∨ j = 2 by omega) with rfl | rfl | rfl <;> rfl) (Nat.le_of_ble_eq_true rfl) (Nat.le_of_ble_eq_true rfl) dX7_tag_70 (fun q_10 H hP hD hS => ?_)
  have hP : va_P (dC, dI) vwCl [(h0, .inr (9, [.ref qm, .ref qt, .ref qw, .ref qc, .ref qb, .ref qg, .int 0, .int 0, .int 0, .int 0, .int 0])), (qt, .inl (cT, 4, .inr (.inr (.inr (.inr (fun _ => none)))))), (q_10, .inr (7, [.int 0, .int 0, .int 0]))] H := hP
  have hD : va_D A [(h0, .inr (9, [.ref qm, .ref qt, .ref qw, .ref qc, .ref qb, .ref qg, .int 0, .int 0, .int 0, .int 0, .int 0])), (qt, .inl (cT, 4, .inr (.inr (.inr (.inr (fun _ => none)))))), (q_10, .inr (7, [.int 0, .int 0, .int 0]))] := hD
  refine W.widen (k := 1) (n := 3) (Nat.le_of_ble_eq_true rfl) (Nat.le_of_ble_eq_true rfl) ?_
  refine lv_dup hx hb dX7_tag_73 rfl ?_
  refine lv_iload_n hx hb dX7_tag_74 rfl (lv_at hl 1 rfl) ?_
  refine lv_iload_n hx hb dX7_tag_75 rfl (lv_at hl 2 rfl) ?_
  refine lv_iload_n hx hb dX7_tag_76 rfl (lv_at hl 3 rfl) ?_
  have hPc := hP.sub (ws' := [(q_10, .inr (7, [.int 0, .int 0, .int 0]))]) [2] rfl
  have hDc := hD.sub (ws' := [(q_10, .inr (7, [.int 0, .int 0, .int 0]))]) [2] (by decide) rfl
  have hKc := hK.sub (tys' := []) [] rfl
  have hFc := va_free (wc := [(q_10, .inr (7, [.int 0, .int 0, .int 0]))]) hD hS hA [2] rfl
  have hZc := ((hZ.kept hS.2.1).narrow hFc)
  refine va_callv (va_runI (As := [.int p0, .int p1, .int p2]) (rest := [.ref q_10, .int 0, .ref qt]) ⟨hx, hb, hml, hown, hts⟩ (c_X5_init l hnt dC dI a0 q_10 p0 p1 p2 H.size ) (cwI 3 hts (goodIn_of _ (by decide +kernel)) rfl rfl rfl (hts (.initialized RX5) (by decide +kernel)) (hts (.methodLink RX7 127 yX5_init) (by decide +kernel)) (hts (.instanceMethod yX5_init) (by decide +kernel)) rfl (by decide +kernel) ⟨Nat.le_of_ble_eq_true rfl, Nat.le_of_ble_eq_true rfl⟩) ⟨fun a U g mk q => by obtain ⟨q0, q1, qP, qK, qD, qZ⟩ := q; exact ⟨q0, q1, qP, va_K.moved (u := U) (U := U.calling g mk a) (Vm.Alike.refl U.vm) qK, qD, qZ.call⟩, fun U hU hW => ⟨rfl, by rw [hU], by rw [hU]; exact hPc, va_K.moved hW.alike hKc, hDc.weaken (fun _ _ _ _ => trivial), by rw [hU]; exact hZc.warm hW⟩⟩ rfl rfl hl.1 rfl (lv_room (Nat.le_of_ble_eq_true rfl)) dX7_tag_77 ⟨Nat.le_of_ble_eq_true rfl, Nat.le_of_ble_eq_true rfl⟩) hS (fun q _ h => hFc q h) hFc (fun u t H1 locs ht hvm hw hB hz1 hk1 hS => ?_)
  obtain ⟨hP1, hK1, hD1⟩ := hB
  rw [ht] at hP1
  have hK1 := va_K.moved hvm.symm hK1
  obtain ⟨hP, hD⟩ := va_join (wr := [(h0, .inr (9, [.ref qm, .ref qt, .ref qw, .ref qc, .ref qb, .ref qg, .int 0, .int 0, .int 0, .int 0, .int 0])), (qt, .inl (cT, 4, .inr (.inr (.inr (.inr (fun _ => none))))))]) (w1 := [(q_10, .inr (7, [.int p0, .int p1, .int p2]))]) hP hD [2] [0, 1] rfl rfl (by decide) (by decide) hk1 hFc hP1 hD1
  have hK := (hK.sub (tys' := [(cT, .object "Haltingale$Tag")]) [0] rfl).app hK1
  generalize H1 = H at hP hS ⊢
  have hP : va_P (dC, dI) vwCl [(h0, .inr (9, [.ref qm, .ref qt, .ref qw, .ref qc, .ref qb, .ref qg, .int 0, .int 0, .int 0, .int 0, .int 0])), (qt, .inl (cT, 4, .inr (.inr (.inr (.inr (fun _ => none)))))), (q_10, .inr (7, [.int p0, .int p1, .int p2]))] H := hP
  have hD : va_D A [(h0, .inr (9, [.ref qm, .ref qt, .ref qw, .ref qc, .ref qb, .ref qg, .int 0, .int 0, .int 0, .int 0, .int 0])), (qt, .inl (cT, 4, .inr (.inr (.inr (.inr (fun _ => none)))))), (q_10, .inr (7, [.int p0, .int p1, .int p2]))] := hD
  have hK : va_K (dC, dI) vwCl [(cT, .object "Haltingale$Tag")] s := hK
  refine W.widen (k := 1) (n := 3) (Nat.le_of_ble_eq_true rfl) (Nat.le_of_ble_eq_true rfl) ?_
  refine va_astq (r := (RX5, TX5, 3)) hx hb hK hP hD hS 1 0 2 7 rfl rfl rfl rfl (by unfold vp_in; decide) dX7_tag_80 (fun H locs hP hD hS => ?_)
  have hP : va_P (dC, dI) vwCl [(h0, .inr (9, [.ref qm, .ref qt, .ref qw, .ref qc, .ref qb, .ref qg, .int 0, .int 0, .int 0, .int 0, .int 0])), (qt, .inl (cT, 4, .inr (.inr (.inr (.inr (va_up (fun _ => none) ((0 : Int32).toNatClampNeg) (some q_10))))))), (q_10, .inr (7, [.int p0, .int p1, .int p2]))] H := hP
  have hD : va_D A [(h0, .inr (9, [.ref qm, .ref qt, .ref qw, .ref qc, .ref qb, .ref qg, .int 0, .int 0, .int 0, .int 0, .int 0])), (qt, .inl (cT, 4, .inr (.inr (.inr (.inr (va_up (fun _ => none) ((0 : Int32).toNatClampNeg) (some q_10))))))), (q_10, .inr (7, [.int p0, .int p1, .int p2]))] := hD
  refine lv_aload_n hx hb dX7_tag_81 rfl (lv_at hl 0 rfl) ?_
  refine lv_dup hx hb dX7_tag_82 rfl ?_
  refine va_get (D := (dC, dI)) (ci := 9) (v := .int 0) (C := RX7) (T := TX7) (N := 11) hx hb hts hiX7 hown hK hP 0 rfl rfl 7 (by decide) (hts (.fieldLink RX7 122 "Haltingale" "tagCount" "I") (by decide +kernel)) (fun _ h9 => h9) rfl dX7_tag_83 ?_
  refine lv_iconst (v := 1) hx hb dX7_tag_86 (by decide) ?_
  refine lv_iadd hx hb dX7_tag_87 ?_
  refine lv_topi (fun x_12 ex_12 => ?_)
  obtain rfl : x_12 = 1 := ex_12.trans (by decide)
  refine va_put (D := (dC, dI)) (ci := 9) (v := .int 1) (ty := .int) (C := RX7) (T := TX7) (N := 11) hx hb hts hiX7 tyX7 tyX7_ok nmX7 hown hK hP hD hS 0 rfl rfl 7 (by decide) (hts (.fieldLink RX7 122 "Haltingale" "tagCount" "I") (by decide +kernel)) (fun _ h9 => h9) rfl (by decide +kernel) rfl rfl (Nat.le_of_ble_eq_true rfl) dX7_tag_88 (fun H locs hP hD hS => ?_)
  have hP : va_P (dC, dI) vwCl [(h0, .inr (9, [.ref qm, .ref qt, .ref qw, .ref qc, .ref qb, .ref qg, .int 0, .int 1, .int 0, .int 0, .int 0])), (qt, .inl (cT, 4, .inr (.inr (.inr (.inr (va_up (fun _ => none) ((0 : Int32).toNatClampNeg) (some q_10))))))), (q_10, .inr (7, [.int p0, .int p1, .int p2]))] H := hP
  have hD : va_D A [(h0, .inr (9, [.ref qm, .ref qt, .ref qw, .ref qc, .ref qb, .ref qg, .int 0, .int 1, .int 0, .int 0, .int 0])), (qt, .inl (cT, 4, .inr (.inr (.inr (.inr (va_up (fun _ => none) ((0 : Int32).toNatClampNeg) (some q_10))))))), (q_10, .inr (7, [.int p0, .int p1, .int p2]))] := hD
  refine lv_aload_n hx hb dX7_tag_91 rfl (lv_at hl 0 rfl) ?_
  refine va_get (D := (dC, dI)) (ci := 9) (v := .int 1) (C := RX7) (T := TX7) (N := 11) hx hb hts hiX7 hown hK hP 0 rfl rfl 7 (by decide) (hts (.fieldLink RX7 122 "Haltingale" "tagCount" "I") (by decide +kernel)) (fun _ h9 => h9) rfl dX7_tag_92 ?_
  refine lv_iconst (v := 1) hx hb dX7_tag_95 (by decide) ?_
  refine lv_isub hx hb dX7_tag_96 ?_
  refine lv_topi (fun x_13 ex_13 => ?_)
  obtain rfl : x_13 = 0 := ex_13.trans (by decide)
  have hP9 := hP.sub (ws' := []) [] rfl
  have hD9 := hD.sub (ws' := []) [] (by decide) rfl
  have hK9 := hK.sub (tys' := []) [] rfl
  refine W.widen (k := 1) (n := 3) (Nat.le_of_ble_eq_true rfl) (Nat.le_of_ble_eq_true rfl) ?_
  exact W.iret (v := 0) hx hb hr (fun t ht hW => ⟨⟨0, (), rfl, rfl, ⟨by rw [ht]; exact hP9, va_K.moved hW.alike hK9, hD9⟩⟩, hS.F ht⟩) hS.2.2 dX7_tag_97

def zs_c_X7_digest : List Cond := .code yX7_digest cX7_digest 4 (some .long) :: (([.constantLong RX7 261 (58237), .constantLong RX7 263 (31), .code yX7_many cX7_many 2 (some .int), .code yX7_isWithin cX7_isWithin 3 (some .boolean), .methodLink RX7 49 yX7_isWithin, .static yX7_isWithin, .initialized RX7, .code yX7_require cX7_require 1 none, .methodLink RX7 53 yX7_require, .static yX7_require, .fieldLink RX7 148 "Haltingale" "machineCount" "I", .methodLink RX7 265 yX7_many, .instanceMethod yX7_many, .selects RX7 yX7_many yX7_many, .code yX7_countOfKind cX7_countOfKind 4 (some .int), .methodLink RX7 252 yX7_countOfKind, .instanceMethod yX7_countOfKind, .selects RX7 yX7_countOfKind yX7_countOfKind, .fieldLink RX7 122 "Haltingale" "tagCount" "I", .fieldLink RX7 136 "Haltingale" "givenCount" "I", .fieldLink RX7 142 "Haltingale" "takenCount" "I", .fieldLink RX7 255 "Haltingale" "takenBackCount" "I", .code yX7_countEmptyCells cX7_countEmptyCells 3 (some .int), .methodLink RX7 258 yX7_countEmptyCells, .instanceMethod yX7_countEmptyCells, .selects RX7 yX7_countEmptyCells yX7_countEmptyCells, .code yX7_champion cX7_champion 7 (some .int), .methodLink RX7 279 yX7_champion, .instanceMethod yX7_champion, .selects RX7 yX7_champion yX7_champion] : List Cond) ++ wsX70)
set_option maxHeartbeats 4000000 in
set_option maxRecDepth 100000 in
/-- the digest of nothing -/
theorem c_X7_digest (l : Launch) (hnt : l.stackTraces = false) (dC : Nat → ClassId) (dI : Nat → Nat → Nat) (a0 : Nat) (h0 : Nat) (qm : Nat) (qt : Nat) (qw : Nat) (qc : Nat) (qb : Nat) (qg : Nat) (sz : Nat)  : Met l yX7_digest zs_c_X7_digest ({ frames := 2, cells := 0, slots := 0, locals := 48 }) (va_Pc [.ref h0] (fun U => U.heap.size = sz ∧ va_P (dC, dI) vwCl [(h0, .inr (9, [.ref qm, .ref qt, .ref qw, .ref qc, .ref qb, .ref qg, .int 0, .int 0, .int 0, .int 0, .int 0]))] U.heap ∧ va_K (dC, dI) vwCl [] U ∧ va_D (fun _ => True) [(h0, .inr (9, [.ref qm, .ref qt, .ref qw, .ref qc, .ref qb, .ref qg, .int 0, .int 0, .int 0, .int 0, .int 0]))] ∧ zB a0 (va_A [(h0, .inr (9, [.ref qm, .ref qt, .ref qw, .ref qc, .ref qb, .ref qg, .int 0, .int 0, .int 0, .int 0, .int 0]))] sz) U U.heap)) (va_Ql (fun (r : Int64) (_ : Unit) => r = 483314258739949443) (fun _ t => va_P (dC, dI) vwCl [] t.heap ∧ va_K (dC, dI) vwCl [] t ∧ va_D (va_A [(h0, .inr (9, [.ref qm, .ref qt, .ref qw, .ref qc, .ref qb, .ref qg, .int 0, .int 0, .int 0, .int 0, .int 0]))] sz) []) (va_A [(h0, .inr (9, [.ref qm, .ref qt, .ref qw, .ref qc, .ref qb, .ref qg, .int 0, .int 0, .int 0, .int 0, .int 0]))] sz)) 0 0 (va_A [(h0, .inr (9, [.ref qm, .ref qt, .ref qw, .ref qc, .ref qb, .ref qg, .int 0, .int 0, .int 0, .int 0, .int 0]))] sz) := by
  refine Met.ofW (cc := cX7_digest) (maxL := 4) (ret := (some .long)) (by decide) rfl ?_
  intro p e s m args below meth c s₁ B hml hv
  obtain ⟨rfl, hsz, hP, hK, hD0, hZ⟩ := hv
  have hx := B.exec
  have hb := B.bytes
  have hr := B.returns
  have hts := atoms_spec (ws := zs_c_X7_digest) B.pre
  have hown : s.vm.findClass RX7 = some m.cls := findClass_of_methodNamed B.named
  have hlocks := B.notSynchronized
  have hiX7 : ∀ w ∈ wsX70, w ∈ zs_c_X7_digest := by decide +kernel
  subst hsz
  have hD := hD0.self (sz := s.heap.size)
  generalize hAe : va_A [(h0, .inr (9, [.ref qm, .ref qt, .ref qw, .ref qc, .ref qb, .ref qg, .int 0, .int 0, .int 0, .int 0, .int 0]))] s.heap.size = A at hD hZ ⊢
  have hA : ∀ q : Nat, s.heap.size ≤ q → A q := fun q h => by rw [← hAe]; exact Or.inr h
  have hS : va_S A s.heap s.heap [] := va_S.rf
  have hl := lv_entry ([.ref h0]) (n := 4) (Nat.le_of_ble_eq_true rfl)
  rw [lg_entry_eq]
  generalize (lg_sl ([.ref h0]) ++ List.replicate (4 - (lg_sl ([.ref h0])).length) Slot.unset).toArray = ls at hl ⊢
  have hl : lv_has ls 4 [(0, .ref h0)] := hl
  refine lv_ldc2 (v := 58237) hx hb hown (hts (.constantLong RX7 261 (58237)) (by decide +kernel)) dX7_digest_0 ?_
  refine lv_lstore_n (lv' := [(1, .long 58237), (0, .ref h0)]) hx hb dX7_digest_3 rfl hl (by decide) rfl (fun ls hl => ?_)
  refine lv_iconst (v := 0) hx hb dX7_digest_4 (by decide) ?_
  refine lv_istore_n (lv' := [(3, .int 0), (1, .long 58237), (0, .ref h0)]) hx hb dX7_digest_5 rfl hl (by decide) rfl (fun ls hl => ?_)
  refine lv_iload_n hx hb dX7_digest_6 rfl (lv_at hl 0 rfl) ?_
  refine lv_bipush (v := 10) hx hb dX7_digest_7 (by decide) ?_
  refine lv_icmp_gt (tgt := 31) hx hb dX7_digest_9 (by decide) (fun c_1 => ?_) (fun c_1 => ?_)
  · (first | exact absurd c_1 (by decide) | exact absurd (by decide) c_1)
  refine lv_lload_n hx hb dX7_digest_12 rfl (lv_at hl 1 rfl) ?_
  refine lv_ldc2 (v := 31) hx hb hown (hts (.constantLong RX7 263 (31)) (by decide +kernel)) dX7_digest_13 ?_
  refine lv_lmul hx hb dX7_digest_16 ?_
  refine lv_topl (fun y_2 ey_2 => ?_)
  obtain rfl : y_2 = 1805347 := ey_2.trans (by decide +kernel)
  refine lv_aload_n hx hb dX7_digest_17 rfl (lv_at hl 2 rfl) ?_
  refine lv_iload_n hx hb dX7_digest_18 rfl (lv_at hl 0 rfl) ?_
  have hPc := hP.sub (ws' := [(h0, .inr (9, [.ref qm, .ref qt, .ref qw, .ref qc, .ref qb, .ref qg, .int 0, .int 0, .int 0, .int 0, .int 0]))]) [0] rfl
  have hDc := hD.sub (ws' := [(h0, .inr (9, [.ref qm, .ref qt, .ref qw, .ref qc, .ref qb, .ref qg, .int 0, .int 0, .int 0, .int 0, .int 0]))]) [0] (by decide) rfl
  have hKc := hK.sub (tys' := []) [] rfl
  have hFc := va_free (wc := [(h0, .inr (9, [.ref qm, .ref qt, .ref qw, .ref qc, .ref qb, .ref qg, .int 0, .int 0, .int 0, .int 0, .int 0]))]) hD hS hA [0] rfl
  have hZc := ((hZ.kept hS.2.1).narrow hFc)
  refine va_calli (va_runV (As := [.int 0]) (rest := [.long 1805347]) ⟨hx, hb, hml, hown, hts⟩ (c_X7_many_0 l hnt dC dI a0 h0 qm qt qw qc qb qg s.heap.size ) (cwV 1 hts (goodIn_of _ (by decide +kernel)) rfl rfl rfl (by decide +kernel) ⟨Nat.le_of_ble_eq_true rfl, Nat.le_of_ble_eq_true rfl⟩) ⟨fun a U g mk q => by obtain ⟨q0, q1, qP, qK, qD, qZ⟩ := q; exact ⟨q0, q1, qP, va_K.moved (u := U) (U := U.calling g mk a) (Vm.Alike.refl U.vm) qK, qD, qZ.call⟩, va_recv hKc hPc (ci := 9) (q0 := 0) rfl rfl, fun U hU hW => ⟨rfl, by rw [hU], by rw [hU]; exact hPc, va_K.moved hW.alike hKc, hDc.weaken (fun _ _ _ _ => trivial), by rw [hU]; exact hZc.warm hW⟩⟩ rfl rfl hl.1 rfl (lv_room (Nat.le_of_ble_eq_true rfl)) dX7_digest_19 ⟨Nat.le_of_ble_eq_true rfl, Nat.le_of_ble_eq_true rfl⟩) hS (fun q _ h => hFc q h) hFc (fun r_3 u t H1 locs ht hvm hw hB hz1 hk1 hS => ?_)
  obtain ⟨hP1, hK1, hD1⟩ := hB
  rw [ht] at hP1
  have hK1 := va_K.moved hvm.symm hK1
  obtain ⟨hP, hD⟩ := va_join (wr := []) (w1 := [(h0, .inr (9, [.ref qm, .ref qt, .ref qw, .ref qc, .ref qb, .ref qg, .int 0, .int 0, .int 0, .int 0, .int 0]))]) hP hD [0] [] rfl rfl (by decide) (by decide) hk1 hFc hP1 hD1
  have hK := (hK.sub (tys' := []) [] rfl).app hK1
  generalize H1 = H at hP hS ⊢
  have hP : va_P (dC, dI) vwCl [(h0, .inr (9, [.ref qm, .ref qt, .ref qw, .ref qc, .ref qb, .ref qg, .int 0, .int 0, .int 0, .int 0, .int 0]))] H := hP
  have hD : va_D A [(h0, .inr (9, [.ref qm, .ref qt, .ref qw, .ref qc, .ref qb, .ref qg, .int 0, .int 0, .int 0, .int 0, .int 0]))] := hD
  have hK : va_K (dC, dI) vwCl [] s := hK
  refine W.widen (k := 0) (n := 0) (Nat.le_of_ble_eq_true rfl) (Nat.le_of_ble_eq_true rfl) ?_
  obtain rfl : r_3 = 0 := hw
  refine lv_i2l (v := 0) hx hb dX7_digest_22 (by decide) ?_
  refine lv_ladd hx hb dX7_digest_23 ?_
  refine lv_topl (fun y_4 ey_4 => ?_)
  obtain rfl : y_4 = 1805347 := ey_4.trans (by decide +kernel)
  refine lv_lstore_n (lv' := [(1, .long 1805347), (3, .int 0), (0, .ref h0)]) hx hb dX7_digest_24 rfl hl (by decide) rfl (fun ls hl => ?_)
  refine lv_iinc (v := 1) (lv' := [(3, .int 1), (1, .long 1805347), (0, .ref h0)]) hx hb dX7_digest_25 hl (k := 1) rfl (by decide) (by decide) rfl (fun ls hl => ?_)
  refine lv_goto (tgt := 6) hx hb dX7_digest_28 (by decide) ?_
  refine lv_iload_n hx hb dX7_digest_6 rfl (lv_at hl 0 rfl) ?_
  refine lv_bipush (v := 10) hx hb dX7_digest_7 (by decide) ?_
  refine lv_icmp_gt (tgt := 31) hx hb dX7_digest_9 (by decide) (fun c_5 => ?_) (fun c_5 => ?_)
  · (first | exact absurd c_5 (by decide) | exact absurd (by decide) c_5)
  refine lv_lload_n hx hb dX7_digest_12 rfl (lv_at hl 1 rfl) ?_
  refine lv_ldc2 (v := 31) hx hb hown (hts (.constantLong RX7 263 (31)) (by decide +kernel)) dX7_digest_13 ?_
  refine lv_lmul hx hb dX7_digest_16 ?_
  refine lv_topl (fun y_6 ey_6 => ?_)
  obtain rfl : y_6 = 55965757 := ey_6.trans (by decide +kernel)
  refine lv_aload_n hx hb dX7_digest_17 rfl (lv_at hl 2 rfl) ?_
  refine lv_iload_n hx hb dX7_digest_18 rfl (lv_at hl 0 rfl) ?_
  have hPc := hP.sub (ws' := [(h0, .inr (9, [.ref qm, .ref qt, .ref qw, .ref qc, .ref qb, .ref qg, .int 0, .int 0, .int 0, .int 0, .int 0]))]) [0] rfl
  have hDc := hD.sub (ws' := [(h0, .inr (9, [.ref qm, .ref qt, .ref qw, .ref qc, .ref qb, .ref qg, .int 0, .int 0, .int 0, .int 0, .int 0]))]) [0] (by decide) rfl
  have hKc := hK.sub (tys' := []) [] rfl
  have hFc := va_free (wc := [(h0, .inr (9, [.ref qm, .ref qt, .ref qw, .ref qc, .ref qb, .ref qg, .int 0, .int 0, .int 0, .int 0, .int 0]))]) hD hS hA [0] rfl
  have hZc := ((hZ.kept hS.2.1).narrow hFc)
  refine va_calli (va_runV (As := [.int 1]) (rest := [.long 55965757]) ⟨hx, hb, hml, hown, hts⟩ (c_X7_many_1 l hnt dC dI a0 h0 qm qt qw qc qb qg H.size ) (cwV 1 hts (goodIn_of _ (by decide +kernel)) rfl rfl rfl (by decide +kernel) ⟨Nat.le_of_ble_eq_true rfl, Nat.le_of_ble_eq_true rfl⟩) ⟨fun a U g mk q => by obtain ⟨q0, q1, qP, qK, qD, qZ⟩ := q; exact ⟨q0, q1, qP, va_K.moved (u := U) (U := U.calling g mk a) (Vm.Alike.refl U.vm) qK, qD, qZ.call⟩, va_recv hKc hPc (ci := 9) (q0 := 0) rfl rfl, fun U hU hW => ⟨rfl, by rw [hU], by rw [hU]; exact hPc, va_K.moved hW.alike hKc, hDc.weaken (fun _ _ _ _ => trivial), by rw [hU]; exact hZc.warm hW⟩⟩ rfl rfl hl.1 rfl (lv_room (Nat.le_of_ble_eq_true rfl)) dX7_digest_19 ⟨Nat.le_of_ble_eq_true rfl, Nat.le_of_ble_eq_true rfl⟩) hS (fun q _ h => hFc q h) hFc (fun r_7 u t H1 locs ht hvm hw hB hz1 hk1 hS => ?_)
  obtain ⟨hP1, hK1, hD1⟩ := hB
  rw [ht] at hP1
  have hK1 := va_K.moved hvm.symm hK1
  obtain ⟨hP, hD⟩ := va_join (wr := []) (w1 := [(h0, .inr (9, [.ref qm, .ref qt, .ref qw, .ref qc, .ref qb, .ref qg, .int 0, .int 0, .int 0, .int 0, .int 0]))]) hP hD [0] [] rfl rfl (by decide) (by decide) hk1 hFc hP1 hD1
  have hK := (hK.sub (tys' := []) [] rfl).app hK1
  generalize H1 = H at hP hS ⊢
  have hP : va_P (dC, dI) vwCl [(h0, .inr (9, [.ref qm, .ref qt, .ref qw, .ref qc, .ref qb, .ref qg, .int 0, .int 0, .int 0, .int 0, .int 0]))] H := hP
  have hD : va_D A [(h0, .inr (9, [.ref qm, .ref qt, .ref qw, .ref qc, .ref qb, .ref qg, .int 0, .int 0, .int 0, .int 0, .int 0]))] := hD
  have hK : va_K (dC, dI) vwCl [] s := hK
  refine W.widen (k := 0) (n := 0) (Nat.le_of_ble_eq_true rfl) (Nat.le_of_ble_eq_true rfl) ?_
  obtain rfl : r_7 = 0 := hw
  refine lv_i2l (v := 0) hx hb dX7_digest_22 (by decide) ?_
  refine lv_ladd hx hb dX7_digest_23 ?_
  refine lv_topl (fun y_8 ey_8 => ?_)
  obtain rfl : y_8 = 55965757 := ey_8.trans (by decide +kernel)
  refine lv_lstore_n (lv' := [(1, .long 55965757), (3, .int 1), (0, .ref h0)]) hx hb dX7_digest_24 rfl hl (by decide) rfl (fun ls hl => ?_)
  refine lv_iinc (v := 2) (lv' := [(3, .int 2), (1, .long 55965757), (0, .ref h0)]) hx hb dX7_digest_25 hl (k := 1) rfl (by decide) (by decide) rfl (fun ls hl => ?_)
  refine lv_goto (tgt := 6) hx hb dX7_digest_28 (by decide) ?_
  refine lv_iload_n hx hb dX7_digest_6 rfl (lv_at hl 0 rfl) ?_
  refine lv_bipush (v := 10) hx hb dX7_digest_7 (by decide) ?_
  refine lv_icmp_gt (tgt := 31) hx hb dX7_digest_9 (by decide) (fun c_9 => ?_) (fun c_9 => ?_)
  · (first | exact absurd c_9 (by decide) | exact absurd (by decide) c_9)
  refine lv_lload_n hx hb dX7_digest_12 rfl (lv_at hl 1 rfl) ?_
  refine lv_ldc2 (v := 31) hx hb hown (hts (.constantLong RX7 263 (31)) (by decide +kernel)) dX7_digest_13 ?_
  refine lv_lmul hx hb dX7_digest_16 ?_
  refine lv_topl (fun y_10 ey_10 => ?_)
  obtain rfl : y_10 = 1734938467 := ey_10.trans (by decide +kernel)
  refine lv_aload_n hx hb dX7_digest_17 rfl (lv_at hl 2 rfl) ?_
  refine lv_iload_n hx hb dX7_digest_18 rfl (lv_at hl 0 rfl) ?_
  have hPc := hP.sub (ws' := [(h0, .inr (9, [.ref qm, .ref qt, .ref qw, .ref qc, .ref qb, .ref qg, .int 0, .int 0, .int 0, .int 0, .int 0]))]) [0] rfl
  have hDc := hD.sub (ws' := [(h0, .inr (9, [.ref qm, .ref qt, .ref qw, .ref qc, .ref qb, .ref qg, .int 0, .int 0, .int 0, .int 0, .int 0]))]) [0] (by decide) rfl
  have hKc := hK.sub (tys' := []) [] rfl
  have hFc := va_free (wc := [(h0, .inr (9, [.ref qm, .ref qt, .ref qw, .ref qc, .ref qb, .ref qg, .int 0, .int 0, .int 0, .int 0, .int 0]))]) hD hS hA [0] rfl
  have hZc := ((hZ.kept hS.2.1).narrow hFc)
  refine va_calli (va_runV (As := [.int 2]) (rest := [.long 1734938467]) ⟨hx, hb, hml, hown, hts⟩ (c_X7_many_2 l hnt dC dI a0 h0 qm qt qw qc qb qg H.size ) (cwV 1 hts (goodIn_of _ (by decide +kernel)) rfl rfl rfl (by decide +kernel) ⟨Nat.le_of_ble_eq_true rfl, Nat.le_of_ble_eq_true rfl⟩) ⟨fun a U g mk q => by obtain ⟨q0, q1, qP, qK, qD, qZ⟩ := q; exact ⟨q0, q1, qP, va_K.moved (u := U) (U := U.calling g mk a) (Vm.Alike.refl U.vm) qK, qD, qZ.call⟩, va_recv hKc hPc (ci := 9) (q0 := 0) rfl rfl, fun U hU hW => ⟨rfl, by rw [hU], by rw [hU]; exact hPc, va_K.moved hW.alike hKc, hDc.weaken (fun _ _ _ _ => trivial), by rw [hU]; exact hZc.warm hW⟩⟩ rfl rfl hl.1 rfl (lv_room (Nat.le_of_ble_eq_true rfl)) dX7_digest_19 ⟨Nat.le_of_ble_eq_true rfl, Nat.le_of_ble_eq_true rfl⟩) hS (fun q _ h => hFc q h) hFc (fun r_11 u t H1 locs ht hvm hw hB hz1 hk1 hS => ?_)
  obtain ⟨hP1, hK1, hD1⟩ := hB
  rw [ht] at hP1
  have hK1 := va_K.moved hvm.symm hK1
  obtain ⟨hP, hD⟩ := va_join (wr := []) (w1 := [(h0, .inr (9, [.ref qm, .ref qt, .ref qw, .ref qc, .ref qb, .ref qg, .int 0, .int 0, .int 0, .int 0, .int 0]))]) hP hD [0] [] rfl rfl (by decide) (by decide) hk1 hFc hP1 hD1
  have hK := (hK.sub (tys' := []) [] rfl).app hK1
  generalize H1 = H at hP hS ⊢
  have hP : va_P (dC, dI) vwCl [(h0, .inr (9, [.ref qm, .ref qt, .ref qw, .ref qc, .ref qb, .ref qg, .int 0, .int 0, .int 0, .int 0, .int 0]))] H := hP
  have hD : va_D A [(h0, .inr (9, [.ref qm, .ref qt, .ref qw, .ref qc, .ref qb, .ref qg, .int 0, .int 0, .int 0, .int 0, .int 0]))] := hD
  have hK : va_K (dC, dI) vwCl [] s := hK
  refine W.widen (k := 0) (n := 0) (Nat.le_of_ble_eq_true rfl) (Nat.le_of_ble_eq_true rfl) ?_
  obtain rfl : r_11 = 0 := hw
  refine lv_i2l (v := 0) hx hb dX7_digest_22 (by decide) ?_
  refine lv_ladd hx hb dX7_digest_23 ?_
  refine lv_topl (fun y_12 ey_12 => ?_)
  obtain rfl : y_12 = 1734938467 := ey_12.trans (by decide +kernel)
  refine lv_lstore_n (lv' := [(1, .long 1734938467), (3, .int 2), (0, .ref h0)]) hx hb dX7_digest_24 rfl hl (by decide) rfl (fun ls hl => ?_)
  refine lv_iinc (v := 3) (lv' := [(3, .int 3), (1, .long 1734938467), (0, .ref h0)]) hx hb dX7_digest_25 hl (k := 1) rfl (by decide) (by decide) rfl (fun ls hl => ?_)
  refine lv_goto (tgt := 6) hx hb dX7_digest_28 (by decide) ?_
  refine lv_iload_n hx hb dX7_digest_6 rfl (lv_at hl 0 rfl) ?_
  refine lv_bipush (v := 10) hx hb dX7_digest_7 (by decide) ?_
  refine lv_icmp_gt (tgt := 31) hx hb dX7_digest_9 (by decide) (fun c_13 => ?_) (fun c_13 => ?_)
  · (first | exact absurd c_13 (by decide) | exact absurd (by decide) c_13)
  refine lv_lload_n hx hb dX7_digest_12 rfl (lv_at hl 1 rfl) ?_
  refine lv_ldc2 (v := 31) hx hb hown (hts (.constantLong RX7 263 (31)) (by decide +kernel)) dX7_digest_13 ?_
  refine lv_lmul hx hb dX7_digest_16 ?_
  refine lv_topl (fun y_14 ey_14 => ?_)
  obtain rfl : y_14 = 53783092477 := ey_14.trans (by decide +kernel)
  refine lv_aload_n hx hb dX7_digest_17 rfl (lv_at hl 2 rfl) ?_
  refine lv_iload_n hx hb dX7_digest_18 rfl (lv_at hl 0 rfl) ?_
  have hPc := hP.sub (ws' := [(h0, .inr (9, [.ref qm, .ref qt, .ref qw, .ref qc, .ref qb, .ref qg, .int 0, .int 0, .int 0, .int 0, .int 0]))]) [0] rfl
  have hDc := hD.sub (ws' := [(h0, .inr (9, [.ref qm, .ref qt, .ref qw, .ref qc, .ref qb, .ref qg, .int 0, .int 0, .int 0, .int 0, .int 0]))]) [0] (by decide) rfl
  have hKc := hK.sub (tys' := []) [] rfl
  have hFc := va_free (wc := [(h0, .inr (9, [.ref qm, .ref qt, .ref qw, .ref qc, .ref qb, .ref qg, .int 0, .int 0, .int 0, .int 0, .int 0]))]) hD hS hA [0] rfl
  have hZc := ((hZ.kept hS.2.1).narrow hFc)
  refine va_calli (va_runV (As := [.int 3]) (rest := [.long 53783092477]) ⟨hx, hb, hml, hown, hts⟩ (c_X7_many_3 l hnt dC dI a0 h0 qm qt qw qc qb qg H.size ) (cwV 1 hts (goodIn_of _ (by decide +kernel)) rfl rfl rfl (by decide +kernel) ⟨Nat.le_of_ble_eq_true rfl, Nat.le_of_ble_eq_true rfl⟩) ⟨fun a U g mk q => by obtain ⟨q0, q1, qP, qK, qD, qZ⟩ := q; exact ⟨q0, q1, qP, va_K.moved (u := U) (U := U.calling g mk a) (Vm.Alike.refl U.vm) qK, qD, qZ.call⟩, va_recv hKc hPc (ci := 9) (q0 := 0) rfl rfl, fun U hU hW => ⟨rfl, by rw [hU], by rw [hU]; exact hPc, va_K.moved hW.alike hKc, hDc.weaken (fun _ _ _ _ => trivial), by rw [hU]; exact hZc.warm hW⟩⟩ rfl rfl hl.1 rfl (lv_room (Nat.le_of_ble_eq_true rfl)) dX7_digest_19 ⟨Nat.le_of_ble_eq_true rfl, Nat.le_of_ble_eq_true rfl⟩) hS (fun q _ h => hFc q h) hFc (fun r_15 u t H1 locs ht hvm hw hB hz1 hk1 hS => ?_)
  obtain ⟨hP1, hK1, hD1⟩ := hB
  rw [ht] at hP1
  have hK1 := va_K.moved hvm.symm hK1
  obtain ⟨hP, hD⟩ := va_join (wr := []) (w1 := [(h0, .inr (9, [.ref qm, .ref qt, .ref qw, .ref qc, .ref qb, .ref qg, .int 0, .int 0, .int 0, .int 0, .int 0]))]) hP hD [0] [] rfl rfl (by decide) (by decide) hk1 hFc hP1 hD1
  have hK := (hK.sub (tys' := []) [] rfl).app hK1
  generalize H1 = H at hP hS ⊢
  have hP : va_P (dC, dI) vwCl [(h0, .inr (9, [.ref qm, .ref qt, .ref qw, .ref qc, .ref qb, .ref qg, .int 0, .int 0, .int 0, .int 0, .int 0]))] H := hP
  have hD : va_D A [(h0, .inr (9, [.ref qm, .ref qt, .ref qw, .ref qc, .ref qb, .ref qg, .int 0, .int 0, .int 0, .int 0, .int 0]))] := hD
  have hK : va_K (dC, dI) vwCl [] s := hK
  refine W.widen (k := 0) (n := 0) (Nat.le_of_ble_eq_true rfl) (Nat.le_of_ble_eq_true rfl) ?_
  obtain rfl : r_15 = 0 := hw
  refine lv_i2l (v := 0) hx hb dX7_digest_22 (by decide) ?_
  refine lv_ladd hx hb dX7_digest_23 ?_
  refine lv_topl (fun y_16 ey_16 => ?_)
  obtain rfl : y_16 = 53783092477 := ey_16.trans (by decide +kernel)
  refine lv_lstore_n (lv' := [(1, .long 53783092477), (3, .int 3), (0, .ref h0)]) hx hb dX7_digest_24 rfl hl (by decide) rfl (fun ls hl => ?_)
  refine lv_iinc (v := 4) (lv' := [(3, .int 4), (1, .long 53783092477), (0, .ref h0)]) hx hb dX7_digest_25 hl (k := 1) rfl (by decide) (by decide) rfl (fun ls hl => ?_)
  refine lv_goto (tgt := 6) hx hb dX7_digest_28 (by decide) ?_
  refine lv_iload_n hx hb dX7_digest_6 rfl (lv_at hl 0 rfl) ?_
  refine lv_bipush (v := 10) hx hb dX7_digest_7 (by decide) ?_
  refine lv_icmp_gt (tgt := 31) hx hb dX7_digest_9 (by decide) (fun c_17 => ?_) (fun c_17 => ?_)
  · (first | exact absurd c_17 (by decide) | exact absurd (by decide) c_17)
  refine lv_lload_n hx hb dX7_digest_12 rfl (lv_at hl 1 rfl) ?_
  refine lv_ldc2 (v := 31) hx hb hown (hts (.constantLong RX7 263 (31)) (by decide +kernel)) dX7_digest_13 ?_
  refine lv_lmul hx hb dX7_digest_16 ?_
  refine lv_topl (fun y_18 ey_18 => ?_)
  obtain rfl : y_18 = 1667275866787 := ey_18.trans (by decide +kernel)
  refine lv_aload_n hx hb dX7_digest_17 rfl (lv_at hl 2 rfl) ?_
  refine lv_iload_n hx hb dX7_digest_18 rfl (lv_at hl 0 rfl) ?_
  have hPc := hP.sub (ws' := [(h0, .inr (9, [.ref qm, .ref qt, .ref qw, .ref qc, .ref qb, .ref qg, .int 0, .int 0, .int 0, .int 0, .int 0]))]) [0] rfl
  have hDc := hD.sub (ws' := [(h0, .inr (9, [.ref qm, .ref qt, .ref qw, .ref qc, .ref qb, .ref qg, .int 0, .int 0, .int 0, .int 0, .int 0]))]) [0] (by decide) rfl
  have hKc := hK.sub (tys' := []) [] rfl
  have hFc := va_free (wc := [(h0, .inr (9, [.ref qm, .ref qt, .ref qw, .ref qc, .ref qb, .ref qg, .int 0, .int 0, .int 0, .int 0, .int 0]))]) hD hS hA [0] rfl
  have hZc := ((hZ.kept hS.2.1).narrow hFc)
  refine va_calli (va_runV (As := [.int 4]) (rest := [.long 1667275866787]) ⟨hx, hb, hml, hown, hts⟩ (c_X7_many_4 l hnt dC dI a0 h0 qm qt qw qc qb qg H.size ) (cwV 1 hts (goodIn_of _ (by decide +kernel)) rfl rfl rfl (by decide +kernel) ⟨Nat.le_of_ble_eq_true rfl, Nat.le_of_ble_eq_true rfl⟩) ⟨fun a U g mk q => by obtain ⟨q0, q1, qP, qK, qD, qZ⟩ := q; exact ⟨q0, q1, qP, va_K.moved (u := U) (U := U.calling g mk a) (Vm.Alike.refl U.vm) qK, qD, qZ.call⟩, va_recv hKc hPc (ci := 9) (q0 := 0) rfl rfl, fun U hU hW => ⟨rfl, by rw [hU], by rw [hU]; exact hPc, va_K.moved hW.alike hKc, hDc.weaken (fun _ _ _ _ => trivial), by rw [hU]; exact hZc.warm hW⟩⟩ rfl rfl hl.1 rfl (lv_room (Nat.le_of_ble_eq_true rfl)) dX7_digest_19 ⟨Nat.le_of_ble_eq_true rfl, Nat.le_of_ble_eq_true rfl⟩) hS (fun q _ h => hFc q h) hFc (fun r_19 u t H1 locs ht hvm hw hB hz1 hk1 hS => ?_)
  obtain ⟨hP1, hK1, hD1⟩ := hB
  rw [ht] at hP1
  have hK1 := va_K.moved hvm.symm hK1
  obtain ⟨hP, hD⟩ := va_join (wr := []) (w1 := [(h0, .inr (9, [.ref qm, .ref qt, .ref qw, .ref qc, .ref qb, .ref qg, .int 0, .int 0, .int 0, .int 0, .int 0]))]) hP hD [0] [] rfl rfl (by decide) (by decide) hk1 hFc hP1 hD1
  have hK := (hK.sub (tys' := []) [] rfl).app hK1
  generalize H1 = H at hP hS ⊢
  have hP : va_P (dC, dI) vwCl [(h0, .inr (9, [.ref qm, .ref qt, .ref qw, .ref qc, .ref qb, .ref qg, .int 0, .int 0, .int 0, .int 0, .int 0]))] H := hP
  have hD : va_D A [(h0, .inr (9, [.ref qm, .ref qt, .ref qw, .ref qc, .ref qb, .ref qg, .int 0, .int 0, .int 0, .int 0, .int 0]))] := hD
  have hK : va_K (dC, dI) vwCl [] s := hK
  refine W.widen (k := 0) (n := 0) (Nat.le_of_ble_eq_true rfl) (Nat.le_of_ble_eq_true rfl) ?_
  obtain rfl : r_19 = 0 := hw
  refine lv_i2l (v := 0) hx hb dX7_digest_22 (by decide) ?_
  refine lv_ladd hx hb dX7_digest_23 ?_
  refine lv_topl (fun y_20 ey_20 => ?_)
  obtain rfl : y_20 = 1667275866787 := ey_20.trans (by decide +kernel)
  refine lv_lstore_n (lv' := [(1, .long 1667275866787), (3, .int 4), (0, .ref h0)]) hx hb dX7_digest_24 rfl hl (by decide) rfl (fun ls hl => ?_)
  refine lv_iinc (v := 5) (lv' := [(3, .int 5), (1, .long 1667275866787), (0, .ref h0)]) hx hb dX7_digest_25 hl (k := 1) rfl (by decide) (by decide) rfl (fun ls hl => ?_)
  refine lv_goto (tgt := 6) hx hb dX7_digest_28 (by decide) ?_
  refine lv_iload_n hx hb dX7_digest_6 rfl (lv_at hl 0 rfl) ?_
  refine lv_bipush (v := 10) hx hb dX7_digest_7 (by decide) ?_
  refine lv_icmp_gt (tgt := 31) hx hb dX7_digest_9 (by decide) (fun c_21 => ?_) (fun c_21 => ?_)
  · (first | exact absurd c_21 (by decide) | exact absurd (by decide) c_21)
  refine lv_lload_n hx hb dX7_digest_12 rfl (lv_at hl 1 rfl) ?_
  refine lv_ldc2 (v := 31) hx hb hown (hts (.constantLong RX7 263 (31)) (by decide +kernel)) dX7_digest_13 ?_
  refine lv_lmul hx hb dX7_digest_16 ?_
  refine lv_topl (fun y_22 ey_22 => ?_)
  obtain rfl : y_22 = 51685551870397 := ey_22.trans (by decide +kernel)
  refine lv_aload_n hx hb dX7_digest_17 rfl (lv_at hl 2 rfl) ?_
  refine lv_iload_n hx hb dX7_digest_18 rfl (lv_at hl 0 rfl) ?_
  have hPc := hP.sub (ws' := [(h0, .inr (9, [.ref qm, .ref qt, .ref qw, .ref qc, .ref qb, .ref qg, .int 0, .int 0, .int 0, .int 0, .int 0]))]) [0] rfl
  have hDc := hD.sub (ws' := [(h0, .inr (9, [.ref qm, .ref qt, .ref qw, .ref qc, .ref qb, .ref qg, .int 0, .int 0, .int 0, .int 0, .int 0]))]) [0] (by decide) rfl
  have hKc := hK.sub (tys' := []) [] rfl
  have hFc := va_free (wc := [(h0, .inr (9, [.ref qm, .ref qt, .ref qw, .ref qc, .ref qb, .ref qg, .int 0, .int 0, .int 0, .int 0, .int 0]))]) hD hS hA [0] rfl
  have hZc := ((hZ.kept hS.2.1).narrow hFc)
  refine va_calli (va_runV (As := [.int 5]) (rest := [.long 51685551870397]) ⟨hx, hb, hml, hown, hts⟩ (c_X7_many_5 l hnt dC dI a0 h0 qm qt qw qc qb qg H.size ) (cwV 1 hts (goodIn_of _ (by decide +kernel)) rfl rfl rfl (by decide +kernel) ⟨Nat.le_of_ble_eq_true rfl, Nat.le_of_ble_eq_true rfl⟩) ⟨fun a U g mk q => by obtain ⟨q0, q1, qP, qK, qD, qZ⟩ := q; exact ⟨q0, q1, qP, va_K.moved (u := U) (U := U.calling g mk a) (Vm.Alike.refl U.vm) qK, qD, qZ.call⟩, va_recv hKc hPc (ci := 9) (q0 := 0) rfl rfl, fun U hU hW => ⟨rfl, by rw [hU], by rw [hU]; exact hPc, va_K.moved hW.alike hKc, hDc.weaken (fun _ _ _ _ => trivial), by rw [hU]; exact hZc.warm hW⟩⟩ rfl rfl hl.1 rfl (lv_room (Nat.le_of_ble_eq_true rfl)) dX7_digest_19 ⟨Nat.le_of_ble_eq_true rfl, Nat.le_of_ble_eq_true rfl⟩) hS (fun q _ h => hFc q h) hFc (fun r_23 u t H1 locs ht hvm hw hB hz1 hk1 hS => ?_)
  obtain ⟨hP1, hK1, hD1⟩ := hB
  rw [ht] at hP1
  have hK1 := va_K.moved hvm.symm hK1
  obtain ⟨hP, hD⟩ := va_join (wr := []) (w1 := [(h0, .inr (9, [.ref qm, .ref qt, .ref qw, .ref qc, .ref qb, .ref qg, .int 0, .int 0, .int 0, .int 0, .int 0]))]) hP hD [0] [] rfl rfl (by decide) (by decide) hk1 hFc hP1 hD1
  have hK := (hK.sub (tys' := []) [] rfl).app hK1
  generalize H1 = H at hP hS ⊢
  have hP : va_P (dC, dI) vwCl [(h0, .inr (9, [.ref qm, .ref qt, .ref qw, .ref qc, .ref qb, .ref qg, .int 0, .int 0, .int 0, .int 0, .int 0]))] H := hP
  have hD : va_D A [(h0, .inr (9, [.ref qm, .ref qt, .ref qw, .ref qc, .ref qb, .ref qg, .int 0, .int 0, .int 0, .int 0, .int 0]))] := hD
  have hK : va_K (dC, dI) vwCl [] s := hK
  refine W.widen (k := 0) (n := 0) (Nat.le_of_ble_eq_true rfl) (Nat.le_of_ble_eq_true rfl) ?_
  obtain rfl : r_23 = 0 := hw
  refine lv_i2l (v := 0) hx hb dX7_digest_22 (by decide) ?_
  refine lv_ladd hx hb dX7_digest_23 ?_
  refine lv_topl (fun y_24 ey_24 => ?_)
  obtain rfl : y_24 = 51685551870397 := ey_24.trans (by decide +kernel)
  refine lv_lstore_n (lv' := [(1, .long 51685551870397), (3, .int 5), (0, .ref h0)]) hx hb dX7_digest_24 rfl hl (by decide) rfl (fun ls hl => ?_)
  refine lv_iinc (v := 6) (lv' := [(3, .int 6), (1, .long 51685551870397), (0, .ref h0)]) hx hb dX7_digest_25 hl (k := 1) rfl (by decide) (by decide) rfl (fun ls hl => ?_)
  refine lv_goto (tgt := 6) hx hb dX7_digest_28 (by decide) ?_
  refine lv_iload_n hx hb dX7_digest_6 rfl (lv_at hl 0 rfl) ?_
  refine lv_bipush (v := 10) hx hb dX7_digest_7 (by decide) ?_
  refine lv_icmp_gt (tgt := 31) hx hb dX7_digest_9 (by decide) (fun c_25 => ?_) (fun c_25 => ?_)
  · (first | exact absurd c_25 (by decide) | exact absurd (by decide) c_25)
  refine lv_lload_n hx hb dX7_digest_12 rfl (lv_at hl 1 rfl) ?_
  refine lv_ldc2 (v := 31) hx hb hown (hts (.constantLong RX7 263 (31)) (by decide +kernel)) dX7_digest_13 ?_
  refine lv_lmul hx hb dX7_digest_16 ?_
  refine lv_topl (fun y_26 ey_26 => ?_)
  obtain rfl : y_26 = 1602252107982307 := ey_26.trans (by decide +kernel)
  refine lv_aload_n hx hb dX7_digest_17 rfl (lv_at hl 2 rfl) ?_
  refine lv_iload_n hx hb dX7_digest_18 rfl (lv_at hl 0 rfl) ?_
  have hPc := hP.sub (ws' := [(h0, .inr (9, [.ref qm, .ref qt, .ref qw, .ref qc, .ref qb, .ref qg, .int 0, .int 0, .int 0, .int 0, .int 0]))]) [0] rfl
  have hDc := hD.sub (ws' := [(h0, .inr (9, [.ref qm, .ref qt, .ref qw, .ref qc, .ref qb, .ref qg, .int 0, .int 0, .int 0, .int 0, .int 0]))]) [0] (by decide) rfl
  have hKc := hK.sub (tys' := []) [] rfl
  have hFc := va_free (wc := [(h0, .inr (9, [.ref qm, .ref qt, .ref qw, .ref qc, .ref qb, .ref qg, .int 0, .int 0, .int 0, .int 0, .int 0]))]) hD hS hA [0] rfl
  have hZc := ((hZ.kept hS.2.1).narrow hFc)
  refine va_calli (va_runV (As := [.int 6]) (rest := [.long 1602252107982307]) ⟨hx, hb, hml, hown, hts⟩ (c_X7_many_6 l hnt dC dI a0 h0 qm qt qw qc qb qg H.size ) (cwV 1 hts (goodIn_of _ (by decide +kernel)) rfl rfl rfl (by decide +kernel) ⟨Nat.le_of_ble_eq_true rfl, Nat.le_of_ble_eq_true rfl⟩) ⟨fun a U g mk q => by obtain ⟨q0, q1, qP, qK, qD, qZ⟩ := q; exact ⟨q0, q1, qP, va_K.moved (u := U) (U := U.calling g mk a) (Vm.Alike.refl U.vm) qK, qD, qZ.call⟩, va_recv hKc hPc (ci := 9) (q0 := 0) rfl rfl, fun U hU hW => ⟨rfl, by rw [hU], by rw [hU]; exact hPc, va_K.moved hW.alike hKc, hDc.weaken (fun _ _ _ _ => trivial), by rw [hU]; exact hZc.warm hW⟩⟩ rfl rfl hl.1 rfl (lv_room (Nat.le_of_ble_eq_true rfl)) dX7_digest_19 ⟨Nat.le_of_ble_eq_true rfl, Nat.le_of_ble_eq_true rfl⟩) hS (fun q _ h => hFc q h) hFc (fun r_27 u t H1 locs ht hvm hw hB hz1 hk1 hS => ?_)
  obtain ⟨hP1, hK1, hD1⟩ := hB
  rw [ht] at hP1
  have hK1 := va_K.moved hvm.symm hK1
  obtain ⟨hP, hD⟩ := va_join (wr := []) (w1 := [(h0, .inr (9, [.ref qm, .ref qt, .ref qw, .ref qc, .ref qb, .ref qg, .int 0, .int 0, .int 0, .int 0, .int 0]))]) hP hD [0] [] rfl rfl (by decide) (by decide) hk1 hFc hP1 hD1
  have hK := (hK.sub (tys' := []) [] rfl).app hK1
  generalize H1 = H at hP hS ⊢
  have hP : va_P (dC, dI) vwCl [(h0, .inr (9, [.ref qm, .ref qt, .ref qw, .ref qc, .ref qb, .ref qg, .int 0, .int 0, .int 0, .int 0, .int 0]))] H := hP
  have hD : va_D A [(h0, .inr (9, [.ref qm, .ref qt, .ref qw, .ref qc, .ref qb, .ref qg, .int 0, .int 0, .int 0, .int 0, .int 0]))] := hD
  have hK : va_K (dC, dI) vwCl [] s := hK
  refine W.widen (k := 0) (n := 0) (Nat.le_of_ble_eq_true rfl) (Nat.le_of_ble_eq_true rfl) ?_
  obtain rfl : r_27 = 0 := hw
  refine lv_i2l (v := 0) hx hb dX7_digest_22 (by decide) ?_
  refine lv_ladd hx hb dX7_digest_23 ?_
  refine lv_topl (fun y_28 ey_28 => ?_)
  obtain rfl : y_28 = 1602252107982307 := ey_28.trans (by decide +kernel)
  refine lv_lstore_n (lv' := [(1, .long 1602252107982307), (3, .int 6), (0, .ref h0)]) hx hb dX7_digest_24 rfl hl (by decide) rfl (fun ls hl => ?_)
  refine lv_iinc (v := 7) (lv' := [(3, .int 7), (1, .long 1602252107982307), (0, .ref h0)]) hx hb dX7_digest_25 hl (k := 1) rfl (by decide) (by decide) rfl (fun ls hl => ?_)
  refine lv_goto (tgt := 6) hx hb dX7_digest_28 (by decide) ?_
  refine lv_iload_n hx hb dX7_digest_6 rfl (lv_at hl 0 rfl) ?_
  refine lv_bipush (v := 10) hx hb dX7_digest_7 (by decide) ?_
  refine lv_icmp_gt (tgt := 31) hx hb dX7_digest_9 (by decide) (fun c_29 => ?_) (fun c_29 => ?_)
  · (first | exact absurd c_29 (by decide) | exact absurd (by decide) c_29)
  refine lv_lload_n hx hb dX7_digest_12 rfl (lv_at hl 1 rfl) ?_
  refine lv_ldc2 (v := 31) hx hb hown (hts (.constantLong RX7 263 (31)) (by decide +kernel)) dX7_digest_13 ?_
  refine lv_lmul hx hb dX7_digest_16 ?_
  refine lv_topl (fun y_30 ey_30 => ?_)
  obtain rfl : y_30 = 49669815347451517 := ey_30.trans (by decide +kernel)
  refine lv_aload_n hx hb dX7_digest_17 rfl (lv_at hl 2 rfl) ?_
  refine lv_iload_n hx hb dX7_digest_18 rfl (lv_at hl 0 rfl) ?_
  have hPc := hP.sub (ws' := [(h0, .inr (9, [.ref qm, .ref qt, .ref qw, .ref qc, .ref qb, .ref qg, .int 0, .int 0, .int 0, .int 0, .int 0]))]) [0] rfl
  have hDc := hD.sub (ws' := [(h0, .inr (9, [.ref qm, .ref qt, .ref qw, .ref qc, .ref qb, .ref qg, .int 0, .int 0, .int 0, .int 0, .int 0]))]) [0] (by decide) rfl
  have hKc := hK.sub (tys' := []) [] rfl
  have hFc := va_free (wc := [(h0, .inr (9, [.ref qm, .ref qt, .ref qw, .ref qc, .ref qb, .ref qg, .int 0, .int 0, .int 0, .int 0, .int 0]))]) hD hS hA [0] rfl
  have hZc := ((hZ.kept hS.2.1).narrow hFc)
  refine va_calli (va_runV (As := [.int 7]) (rest := [.long 49669815347451517]) ⟨hx, hb, hml, hown, hts⟩ (c_X7_many_7 l hnt dC dI a0 h0 qm qt qw qc qb qg H.size ) (cwV 1 hts (goodIn_of _ (by decide +kernel)) rfl rfl rfl (by decide +kernel) ⟨Nat.le_of_ble_eq_true rfl, Nat.le_of_ble_eq_true rfl⟩) ⟨fun a U g mk q => by obtain ⟨q0, q1, qP, qK, qD, qZ⟩ := q; exact ⟨q0, q1, qP, va_K.moved (u := U) (U := U.calling g mk a) (Vm.Alike.refl U.vm) qK, qD, qZ.call⟩, va_recv hKc hPc (ci := 9) (q0 := 0) rfl rfl, fun U hU hW => ⟨rfl, by rw [hU], by rw [hU]; exact hPc, va_K.moved hW.alike hKc, hDc.weaken (fun _ _ _ _ => trivial), by rw [hU]; exact hZc.warm hW⟩⟩ rfl rfl hl.1 rfl (lv_room (Nat.le_of_ble_eq_true rfl)) dX7_digest_19 ⟨Nat.le_of_ble_eq_true rfl, Nat.le_of_ble_eq_true rfl⟩) hS (fun q _ h => hFc q h) hFc (fun r_31 u t H1 locs ht hvm hw hB hz1 hk1 hS => ?_)
  obtain ⟨hP1, hK1, hD1⟩ := hB
  rw [ht] at hP1
  have hK1 := va_K.moved hvm.symm hK1
  obtain ⟨hP, hD⟩ := va_join (wr := []) (w1 := [(h0, .inr (9, [.ref qm, .ref qt, .ref qw, .ref qc, .ref qb, .ref qg, .int 0, .int 0, .int 0, .int 0, .int 0]))]) hP hD [0] [] rfl rfl (by decide) (by decide) hk1 hFc hP1 hD1
  have hK := (hK.sub (tys' := []) [] rfl).app hK1
  generalize H1 = H at hP hS ⊢
  have hP : va_P (dC, dI) vwCl [(h0, .inr (9, [.ref qm, .ref qt, .ref qw, .ref qc, .ref qb, .ref qg, .int 0, .int 0, .int 0, .int 0, .int 0]))] H := hP
  have hD : va_D A [(h0, .inr (9, [.ref qm, .ref qt, .ref qw, .ref qc, .ref qb, .ref qg, .int 0, .int 0, .int 0, .int 0, .int 0]))] := hD
  have hK : va_K (dC, dI) vwCl [] s := hK
  refine W.widen (k := 0) (n := 0) (Nat.le_of_ble_eq_true rfl) (Nat.le_of_ble_eq_true rfl) ?_
  obtain rfl : r_31 = 0 := hw
  refine lv_i2l (v := 0) hx hb dX7_digest_22 (by decide) ?_
  refine lv_ladd hx hb dX7_digest_23 ?_
  refine lv_topl (fun y_32 ey_32 => ?_)
  obtain rfl : y_32 = 49669815347451517 := ey_32.trans (by decide +kernel)
  refine lv_lstore_n (lv' := [(1, .long 49669815347451517), (3, .int 7), (0, .ref h0)]) hx hb dX7_digest_24 rfl hl (by decide) rfl (fun ls hl => ?_)
  refine lv_iinc (v := 8) (lv' := [(3, .int 8), (1, .long 49669815347451517), (0, .ref h0)]) hx hb dX7_digest_25 hl (k := 1) rfl (by decide) (by decide) rfl (fun ls hl => ?_)
  refine lv_goto (tgt := 6) hx hb dX7_digest_28 (by decide) ?_
  refine lv_iload_n hx hb dX7_digest_6 rfl (lv_at hl 0 rfl) ?_
  refine lv_bipush (v := 10) hx hb dX7_digest_7 (by decide) ?_
  refine lv_icmp_gt (tgt := 31) hx hb dX7_digest_9 (by decide) (fun c_33 => ?_) (fun c_33 => ?_)
  · (first | exact absurd c_33 (by decide) | exact absurd (by decide) c_33)
  refine lv_lload_n hx hb dX7_digest_12 rfl (lv_at hl 1 rfl) ?_
  refine lv_ldc2 (v := 31) hx hb hown (hts (.constantLong RX7 263 (31)) (by decide +kernel)) dX7_digest_13 ?_
  refine lv_lmul hx hb dX7_digest_16 ?_
  refine lv_topl (fun y_34 ey_34 => ?_)
  obtain rfl : y_34 = 1539764275770997027 := ey_34.trans (by decide +kernel)
  refine lv_aload_n hx hb dX7_digest_17 rfl (lv_at hl 2 rfl) ?_
  refine lv_iload_n hx hb dX7_digest_18 rfl (lv_at hl 0 rfl) ?_
  have hPc := hP.sub (ws' := [(h0, .inr (9, [.ref qm, .ref qt, .ref qw, .ref qc, .ref qb, .ref qg, .int 0, .int 0, .int 0, .int 0, .int 0]))]) [0] rfl
  have hDc := hD.sub (ws' := [(h0, .inr (9, [.ref qm, .ref qt, .ref qw, .ref qc, .ref qb, .ref qg, .int 0, .int 0, .int 0, .int 0, .int 0]))]) [0] (by decide) rfl
  have hKc := hK.sub (tys' := []) [] rfl
  have hFc := va_free (wc := [(h0, .inr (9, [.ref qm, .ref qt, .ref qw, .ref qc, .ref qb, .ref qg, .int 0, .int 0, .int 0, .int 0, .int 0]))]) hD hS hA [0] rfl
  have hZc := ((hZ.kept hS.2.1).narrow hFc)
  refine va_calli (va_runV (As := [.int 8]) (rest := [.long 1539764275770997027]) ⟨hx, hb, hml, hown, hts⟩ (c_X7_many_8 l hnt dC dI a0 h0 qm qt qw qc qb qg H.size ) (cwV 1 hts (goodIn_of _ (by decide +kernel)) rfl rfl rfl (by decide +kernel) ⟨Nat.le_of_ble_eq_true rfl, Nat.le_of_ble_eq_true rfl⟩) ⟨fun a U g mk q => by obtain ⟨q0, q1, qP, qK, qD, qZ⟩ := q; exact ⟨q0, q1, qP, va_K.moved (u := U) (U := U.calling g mk a) (Vm.Alike.refl U.vm) qK, qD, qZ.call⟩, va_recv hKc hPc (ci := 9) (q0 := 0) rfl rfl, fun U hU hW => ⟨rfl, by rw [hU], by rw [hU]; exact hPc, va_K.moved hW.alike hKc, hDc.weaken (fun _ _ _ _ => trivial), by rw [hU]; exact hZc.warm hW⟩⟩ rfl rfl hl.1 rfl (lv_room (Nat.le_of_ble_eq_true rfl)) dX7_digest_19 ⟨Nat.le_of_ble_eq_true rfl, Nat.le_of_ble_eq_true rfl⟩) hS (fun q _ h => hFc q h) hFc (fun r_35 u t H1 locs ht hvm hw hB hz1 hk1 hS => ?_)
  obtain ⟨hP1, hK1, hD1⟩ := hB
  rw [ht] at hP1
  have hK1 := va_K.moved hvm.symm hK1
  obtain ⟨hP, hD⟩ := va_join (wr := []) (w1 := [(h0, .inr (9, [.ref qm, .ref qt, .ref qw, .ref qc, .ref qb, .ref qg, .int 0, .int 0, .int 0, .int 0, .int 0]))]) hP hD [0] [] rfl rfl (by decide) (by decide) hk1 hFc hP1 hD1
  have hK := (hK.sub (tys' := []) [] rfl).app hK1
  generalize H1 = H at hP hS ⊢
  have hP : va_P (dC, dI) vwCl [(h0, .inr (9, [.ref qm, .ref qt, .ref qw, .ref qc, .ref qb, .ref qg, .int 0, .int 0, .int 0, .int 0, .int 0]))] H := hP
  have hD : va_D A [(h0, .inr (9, [.ref qm, .ref qt, .ref qw, .ref qc, .ref qb, .ref qg, .int 0, .int 0, .int 0, .int 0, .int 0]))] := hD
  have hK : va_K (dC, dI) vwCl [] s := hK
  refine W.widen (k := 0) (n := 0) (Nat.le_of_ble_eq_true rfl) (Nat.le_of_ble_eq_true rfl) ?_
  obtain rfl : r_35 = 0 := hw
  refine lv_i2l (v := 0) hx hb dX7_digest_22 (by decide) ?_
  refine lv_ladd hx hb dX7_digest_23 ?_
  refine lv_topl (fun y_36 ey_36 => ?_)
  obtain rfl : y_36 = 1539764275770997027 := ey_36.trans (by decide +kernel)
  refine lv_lstore_n (lv' := [(1, .long 1539764275770997027), (3, .int 8), (0, .ref h0)]) hx hb dX7_digest_24 rfl hl (by decide) rfl (fun ls hl => ?_)
  refine lv_iinc (v := 9) (lv' := [(3, .int 9), (1, .long 1539764275770997027), (0, .ref h0)]) hx hb dX7_digest_25 hl (k := 1) rfl (by decide) (by decide) rfl (fun ls hl => ?_)
  refine lv_goto (tgt := 6) hx hb dX7_digest_28 (by decide) ?_
  refine lv_iload_n hx hb dX7_digest_6 rfl (lv_at hl 0 rfl) ?_
  refine lv_bipush (v := 10) hx hb dX7_digest_7 (by decide) ?_
  refine lv_icmp_gt (tgt := 31) hx hb dX7_digest_9 (by decide) (fun c_37 => ?_) (fun c_37 => ?_)
  · (first | exact absurd c_37 (by decide) | exact absurd (by decide) c_37)
  refine lv_lload_n hx hb dX7_digest_12 rfl (lv_at hl 1 rfl) ?_
  refine lv_ldc2 (v := 31) hx hb hown (hts (.constantLong RX7 263 (31)) (by decide +kernel)) dX7_digest_13 ?_
  refine lv_lmul hx hb dX7_digest_16 ?_
  refine lv_topl (fun y_38 ey_38 => ?_)
  obtain rfl : y_38 = (-7607539672227747011) := ey_38.trans (by decide +kernel)
  refine lv_aload_n hx hb dX7_digest_17 rfl (lv_at hl 2 rfl) ?_
  refine lv_iload_n hx hb dX7_digest_18 rfl (lv_at hl 0 rfl) ?_
  have hPc := hP.sub (ws' := [(h0, .inr (9, [.ref qm, .ref qt, .ref qw, .ref qc, .ref qb, .ref qg, .int 0, .int 0, .int 0, .int 0, .int 0]))]) [0] rfl
  have hDc := hD.sub (ws' := [(h0, .inr (9, [.ref qm, .ref qt, .ref qw, .ref qc, .ref qb, .ref qg, .int 0, .int 0, .int 0, .int 0, .int 0]))]) [0] (by decide) rfl
  have hKc := hK.sub (tys' := []) [] rfl
  have hFc := va_free (wc := [(h0, .inr (9, [.ref qm, .ref qt, .ref qw, .ref qc, .ref qb, .ref qg, .int 0, .int 0, .int 0, .int 0, .int 0]))]) hD hS hA [0] rfl
  have hZc := ((hZ.kept hS.2.1).narrow hFc)
  refine va_calli (va_runV (As := [.int 9]) (rest := [.long (-7607539672227747011)]) ⟨hx, hb, hml, hown, hts⟩ (c_X7_many_9 l hnt dC dI a0 h0 qm qt qw qc qb qg H.size ) (cwV 1 hts (goodIn_of _ (by decide +kernel)) rfl rfl rfl (by decide +kernel) ⟨Nat.le_of_ble_eq_true rfl, Nat.le_of_ble_eq_true rfl⟩) ⟨fun a U g mk q => by obtain ⟨q0, q1, qP, qK, qD, qZ⟩ := q; exact ⟨q0, q1, qP, va_K.moved (u := U) (U := U.calling g mk a) (Vm.Alike.refl U.vm) qK, qD, qZ.call⟩, va_recv hKc hPc (ci := 9) (q0 := 0) rfl rfl, fun U hU hW => ⟨rfl, by rw [hU], by rw [hU]; exact hPc, va_K.moved hW.alike hKc, hDc.weaken (fun _ _ _ _ => trivial), by rw [hU]; exact hZc.warm hW⟩⟩ rfl rfl hl.1 rfl (lv_room (Nat.le_of_ble_eq_true rfl)) dX7_digest_19 ⟨Nat.le_of_ble_eq_true rfl, Nat.le_of_ble_eq_true rfl⟩) hS (fun q _ h => hFc q h) hFc (fun r_39 u t H1 locs ht hvm hw hB hz1 hk1 hS => ?_)
  obtain ⟨hP1, hK1, hD1⟩ := hB
  rw [ht] at hP1
  have hK1 := va_K.moved hvm.symm hK1
  obtain ⟨hP, hD⟩ := va_join (wr := []) (w1 := [(h0, .inr (9, [.ref qm, .ref qt, .ref qw, .ref qc, .ref qb, .ref qg, .int 0, .int 0, .int 0, .int 0, .int 0]))]) hP hD [0] [] rfl rfl (by decide) (by decide) hk1 hFc hP1 hD1
  have hK := (hK.sub (tys' := []) [] rfl).app hK1
  generalize H1 = H at hP hS ⊢
  have hP : va_P (dC, dI) vwCl [(h0, .inr (9, [.ref qm, .ref qt, .ref qw, .ref qc, .ref qb, .ref qg, .int 0, .int 0, .int 0, .int 0, .int 0]))] H := hP
  have hD : va_D A [(h0, .inr (9, [.ref qm, .ref qt, .ref qw, .ref qc, .ref qb, .ref qg, .int 0, .int 0, .int 0, .int 0, .int 0]))] := hD
  have hK : va_K (dC, dI) vwCl [] s := hK
  refine W.widen (k := 0) (n := 0) (Nat.le_of_ble_eq_true rfl) (Nat.le_of_ble_eq_true rfl) ?_
  obtain rfl : r_39 = 0 := hw
  refine lv_i2l (v := 0) hx hb dX7_digest_22 (by decide) ?_
  refine lv_ladd hx hb dX7_digest_23 ?_
  refine lv_topl (fun y_40 ey_40 => ?_)
  obtain rfl : y_40 = (-7607539672227747011) := ey_40.trans (by decide +kernel)
  refine lv_lstore_n (lv' := [(1, .long (-7607539672227747011)), (3, .int 9), (0, .ref h0)]) hx hb dX7_digest_24 rfl hl (by decide) rfl (fun ls hl => ?_)
  refine lv_iinc (v := 10) (lv' := [(3, .int 10), (1, .long (-7607539672227747011)), (0, .ref h0)]) hx hb dX7_digest_25 hl (k := 1) rfl (by decide) (by decide) rfl (fun ls hl => ?_)
  refine lv_goto (tgt := 6) hx hb dX7_digest_28 (by decide) ?_
  refine lv_iload_n hx hb dX7_digest_6 rfl (lv_at hl 0 rfl) ?_
  refine lv_bipush (v := 10) hx hb dX7_digest_7 (by decide) ?_
  refine lv_icmp_gt (tgt := 31) hx hb dX7_digest_9 (by decide) (fun c_41 => ?_) (fun c_41 => ?_)
  · (first | exact absurd c_41 (by decide) | exact absurd (by decide) c_41)
  refine lv_lload_n hx hb dX7_digest_12 rfl (lv_at hl 1 rfl) ?_
  refine lv_ldc2 (v := 31) hx hb hown (hts (.constantLong RX7 263 (31)) (by decide +kernel)) dX7_digest_13 ?_
  refine lv_lmul hx hb dX7_digest_16 ?_
  refine lv_topl (fun y_42 ey_42 => ?_)
  obtain rfl : y_42 = 3973943119164013667 := ey_42.trans (by decide +kernel)
  refine lv_aload_n hx hb dX7_digest_17 rfl (lv_at hl 2 rfl) ?_
  refine lv_iload_n hx hb dX7_digest_18 rfl (lv_at hl 0 rfl) ?_
  have hPc := hP.sub (ws' := [(h0, .inr (9, [.ref qm, .ref qt, .ref qw, .ref qc, .ref qb, .ref qg, .int 0, .int 0, .int 0, .int 0, .int 0]))]) [0] rfl
  have hDc := hD.sub (ws' := [(h0, .inr (9, [.ref qm, .ref qt, .ref qw, .ref qc, .ref qb, .ref qg, .int 0, .int 0, .int 0, .int 0, .int 0]))]) [0] (by decide) rfl
  have hKc := hK.sub (tys' := []) [] rfl
  have hFc := va_free (wc := [(h0, .inr (9, [.ref qm, .ref qt, .ref qw, .ref qc, .ref qb, .ref qg, .int 0, .int 0, .int 0, .int 0, .int 0]))]) hD hS hA [0] rfl
  have hZc := ((hZ.kept hS.2.1).narrow hFc)
  refine va_calli (va_runV (As := [.int 10]) (rest := [.long 3973943119164013667]) ⟨hx, hb, hml, hown, hts⟩ (c_X7_many_10 l hnt dC dI a0 h0 qm qt qw qc qb qg H.size ) (cwV 1 hts (goodIn_of _ (by decide +kernel)) rfl rfl rfl (by decide +kernel) ⟨Nat.le_of_ble_eq_true rfl, Nat.le_of_ble_eq_true rfl⟩) ⟨fun a U g mk q => by obtain ⟨q0, q1, qP, qK, qD, qZ⟩ := q; exact ⟨q0, q1, qP, va_K.moved (u := U) (U := U.calling g mk a) (Vm.Alike.refl U.vm) qK, qD, qZ.call⟩, va_recv hKc hPc (ci := 9) (q0 := 0) rfl rfl, fun U hU hW => ⟨rfl, by rw [hU], by rw [hU]; exact hPc, va_K.moved hW.alike hKc, hDc.weaken (fun _ _ _ _ => trivial), by rw [hU]; exact hZc.warm hW⟩⟩ rfl rfl hl.1 rfl (lv_room (Nat.le_of_ble_eq_true rfl)) dX7_digest_19 ⟨Nat.le_of_ble_eq_true rfl, Nat.le_of_ble_eq_true rfl⟩) hS (fun q _ h => hFc q h) hFc (fun r_43 u t H1 locs ht hvm hw hB hz1 hk1 hS => ?_)
  obtain ⟨hP1, hK1, hD1⟩ := hB
  rw [ht] at hP1
  have hK1 := va_K.moved hvm.symm hK1
  obtain ⟨hP, hD⟩ := va_join (wr := []) (w1 := [(h0, .inr (9, [.ref qm, .ref qt, .ref qw, .ref qc, .ref qb, .ref qg, .int 0, .int 0, .int 0, .int 0, .int 0]))]) hP hD [0] [] rfl rfl (by decide) (by decide) hk1 hFc hP1 hD1
  have hK := (hK.sub (tys' := []) [] rfl).app hK1
  generalize H1 = H at hP hS ⊢
  have hP : va_P (dC, dI) vwCl [(h0, .inr (9, [.ref qm, .ref qt, .ref qw, .ref qc, .ref qb, .ref qg, .int 0, .int 0, .int 0, .int 0, .int 0]))] H := hP
  have hD : va_D A [(h0, .inr (9, [.ref qm, .ref qt, .ref qw, .ref qc, .ref qb, .ref qg, .int 0, .int 0, .int 0, .int 0, .int 0]))] := hD
  have hK : va_K (dC, dI) vwCl [] s := hK
  refine W.widen (k := 0) (n := 0) (Nat.le_of_ble_eq_true rfl) (Nat.le_of_ble_eq_true rfl) ?_
  obtain rfl : r_43 = 0 := hw
  refine lv_i2l (v := 0) hx hb dX7_digest_22 (by decide) ?_
  refine lv_ladd hx hb dX7_digest_23 ?_
  refine lv_topl (fun y_44 ey_44 => ?_)
  obtain rfl : y_44 = 3973943119164013667 := ey_44.trans (by decide +kernel)
  refine lv_lstore_n (lv' := [(1, .long 3973943119164013667), (3, .int 10), (0, .ref h0)]) hx hb dX7_digest_24 rfl hl (by decide) rfl (fun ls hl => ?_)
  refine lv_iinc (v := 11) (lv' := [(3, .int 11), (1, .long 3973943119164013667), (0, .ref h0)]) hx hb dX7_digest_25 hl (k := 1) rfl (by decide) (by decide) rfl (fun ls hl => ?_)
  refine lv_goto (tgt := 6) hx hb dX7_digest_28 (by decide) ?_
  refine lv_iload_n hx hb dX7_digest_6 rfl (lv_at hl 0 rfl) ?_
  refine lv_bipush (v := 10) hx hb dX7_digest_7 (by decide) ?_
  refine lv_icmp_gt (tgt := 31) hx hb dX7_digest_9 (by decide) (fun c_45 => ?_) (fun c_45 => ?_)
  rotate_left
  · (first | exact absurd c_45 (by decide) | exact absurd (by decide) c_45)
  refine lv_iconst (v := 0) hx hb dX7_digest_31 (by decide) ?_
  refine lv_istore_n (lv' := [(3, .int 0), (1, .long 3973943119164013667), (0, .ref h0)]) hx hb dX7_digest_32 rfl hl (by decide) rfl (fun ls hl => ?_)
  refine lv_iload_n hx hb dX7_digest_33 rfl (lv_at hl 0 rfl) ?_
  refine lv_aload_n hx hb dX7_digest_34 rfl (lv_at hl 2 rfl) ?_
  refine va_get (D := (dC, dI)) (ci := 9) (v := .int 0) (C := RX7) (T := TX7) (N := 11) hx hb hts hiX7 hown hK hP 0 rfl rfl 6 (by decide) (hts (.fieldLink RX7 148 "Haltingale" "machineCount" "I") (by decide +kernel)) (fun _ h9 => h9) rfl dX7_digest_35 ?_
  refine lv_icmp_ge (tgt := 61) hx hb dX7_digest_38 (by decide) (fun c_46 => ?_) (fun c_46 => ?_)
  rotate_left
  · (first | exact absurd c_46 (by decide) | exact absurd (by decide) c_46)
  refine lv_iconst (v := 0) hx hb dX7_digest_61 (by decide) ?_
  refine lv_istore_n (lv' := [(3, .int 0), (1, .long 3973943119164013667), (0, .ref h0)]) hx hb dX7_digest_62 rfl hl (by decide) rfl (fun ls hl => ?_)
  refine lv_iload_n hx hb dX7_digest_63 rfl (lv_at hl 0 rfl) ?_
  refine lv_aload_n hx hb dX7_digest_64 rfl (lv_at hl 2 rfl) ?_
  refine va_get (D := (dC, dI)) (ci := 9) (v := .int 0) (C := RX7) (T := TX7) (N := 11) hx hb hts hiX7 hown hK hP 0 rfl rfl 7 (by decide) (hts (.fieldLink RX7 122 "Haltingale" "tagCount" "I") (by decide +kernel)) (fun _ h9 => h9) rfl dX7_digest_65 ?_
  refine lv_icmp_ge (tgt := 94) hx hb dX7_digest_68 (by decide) (fun c_47 => ?_) (fun c_47 => ?_)
  rotate_left
  · (first | exact absurd c_47 (by decide) | exact absurd (by decide) c_47)
  refine lv_lload_n hx hb dX7_digest_94 rfl (lv_at hl 1 rfl) ?_
  refine lv_ldc2 (v := 31) hx hb hown (hts (.constantLong RX7 263 (31)) (by decide +kernel)) dX7_digest_95 ?_
  refine lv_lmul hx hb dX7_digest_98 ?_
  refine lv_topl (fun y_48 ey_48 => ?_)
  obtain rfl : y_48 = (-5934971821882437635) := ey_48.trans (by decide +kernel)
  refine lv_aload_n hx hb dX7_digest_99 rfl (lv_at hl 2 rfl) ?_
  refine lv_iconst (v := 0) hx hb dX7_digest_100 (by decide) ?_
  have hPc := hP.sub (ws' := [(h0, .inr (9, [.ref qm, .ref qt, .ref qw, .ref qc, .ref qb, .ref qg, .int 0, .int 0, .int 0, .int 0, .int 0]))]) [0] rfl
  have hDc := hD.sub (ws' := [(h0, .inr (9, [.ref qm, .ref qt, .ref qw, .ref qc, .ref qb, .ref qg, .int 0, .int 0, .int 0, .int 0, .int 0]))]) [0] (by decide) rfl
  have hKc := hK.sub (tys' := []) [] rfl
  have hFc := va_free (wc := [(h0, .inr (9, [.ref qm, .ref qt, .ref qw, .ref qc, .ref qb, .ref qg, .int 0, .int 0, .int 0, .int 0, .int 0]))]) hD hS hA [0] rfl
  have hZc := ((hZ.kept hS.2.1).narrow hFc)
  refine va_calli (va_runV (As := [.int 0]) (rest := [.long (-5934971821882437635)]) ⟨hx, hb, hml, hown, hts⟩ (c_X7_champion_ok l hnt dC dI a0 h0 qm qt qw qc qb qg 0 H.size (by first | assumption | decide)) (cwV 1 hts (goodIn_of _ (by decide +kernel)) rfl rfl rfl (by decide +kernel) ⟨Nat.le_of_ble_eq_true rfl, Nat.le_of_ble_eq_true rfl⟩) ⟨fun a U g mk q => by obtain ⟨q0, q1, qP, qK, qD, qZ⟩ := q; exact ⟨q0, q1, qP, va_K.moved (u := U) (U := U.calling g mk a) (Vm.Alike.refl U.vm) qK, qD, qZ.call⟩, va_recv hKc hPc (ci := 9) (q0 := 0) rfl rfl, fun U hU hW => ⟨rfl, by rw [hU], by rw [hU]; exact hPc, va_K.moved hW.alike hKc, hDc.weaken (fun _ _ _ _ => trivial), by rw [hU]; exact hZc.warm hW⟩⟩ rfl rfl hl.1 rfl (lv_room (Nat.le_of_ble_eq_true rfl)) dX7_digest_101 ⟨Nat.le_of_ble_eq_true rfl, Nat.le_of_ble_eq_true rfl⟩) hS (fun q _ h => hFc q h) hFc (fun r_49 u t H1 locs ht hvm hw hB hz1 hk1 hS => ?_)
  obtain ⟨hP1, hK1, hD1⟩ := hB
  rw [ht] at hP1
  have hK1 := va_K.moved hvm.symm hK1
  obtain ⟨hP, hD⟩ := va_join (wr := []) (w1 := [(h0, .inr (9, [.ref qm, .ref qt, .ref qw, .ref qc, .ref qb, .ref qg, .int 0, .int 0, .int 0, .int 0, .int 0]))]) hP hD [0] [] rfl rfl (by decide) (by decide) hk1 hFc hP1 hD1
  have hK := (hK.sub (tys' := []) [] rfl).app hK1
  generalize H1 = H at hP hS ⊢
  have hP : va_P (dC, dI) vwCl [(h0, .inr (9, [.ref qm, .ref qt, .ref qw, .ref qc, .ref qb, .ref qg, .int 0, .int 0, .int 0, .int 0, .int 0]))] H := hP
  have hD : va_D A [(h0, .inr (9, [.ref qm, .ref qt, .ref qw, .ref qc, .ref qb, .ref qg, .int 0, .int 0, .int 0, .int 0, .int 0]))] := hD
  have hK : va_K (dC, dI) vwCl [] s := hK
  refine W.widen (k := 0) (n := 0) (Nat.le_of_ble_eq_true rfl) (Nat.le_of_ble_eq_true rfl) ?_
  obtain rfl : r_49 = (-1) := hw
  refine lv_i2l (v := (-1)) hx hb dX7_digest_104 (by decide) ?_
  refine lv_ladd hx hb dX7_digest_105 ?_
  refine lv_topl (fun y_50 ey_50 => ?_)
  obtain rfl : y_50 = (-5934971821882437636) := ey_50.trans (by decide +kernel)
  refine lv_lstore_n (lv' := [(1, .long (-5934971821882437636)), (3, .int 0), (0, .ref h0)]) hx hb dX7_digest_106 rfl hl (by decide) rfl (fun ls hl => ?_)
  refine lv_lload_n hx hb dX7_digest_107 rfl (lv_at hl 0 rfl) ?_
  refine lv_ldc2 (v := 31) hx hb hown (hts (.constantLong RX7 263 (31)) (by decide +kernel)) dX7_digest_108 ?_
  refine lv_lmul hx hb dX7_digest_111 ?_
  refine lv_topl (fun y_51 ey_51 => ?_)
  obtain rfl : y_51 = 483314258739949444 := ey_51.trans (by decide +kernel)
  refine lv_aload_n hx hb dX7_digest_112 rfl (lv_at hl 2 rfl) ?_
  refine lv_iconst (v := 1) hx hb dX7_digest_113 (by decide) ?_
  have hPc := hP.sub (ws' := [(h0, .inr (9, [.ref qm, .ref qt, .ref qw, .ref qc, .ref qb, .ref qg, .int 0, .int 0, .int 0, .int 0, .int 0]))]) [0] rfl
  have hDc := hD.sub (ws' := [(h0, .inr (9, [.ref qm, .ref qt, .ref qw, .ref qc, .ref qb, .ref qg, .int 0, .int 0, .int 0, .int 0, .int 0]))]) [0] (by decide) rfl
  have hKc := hK.sub (tys' := []) [] rfl
  have hFc := va_free (wc := [(h0, .inr (9, [.ref qm, .ref qt, .ref qw, .ref qc, .ref qb, .ref qg, .int 0, .int 0, .int 0, .int 0, .int 0]))]) hD hS hA [0] rfl
  have hZc := ((hZ.kept hS.2.1).narrow hFc)
  refine va_calli (va_runV (As := [.int 1]) (rest := [.long 483314258739949444]) ⟨hx, hb, hml, hown, hts⟩ (c_X7_champion_ok l hnt dC dI a0 h0 qm qt qw qc qb qg 1 H.size (by first | assumption | decide)) (cwV 1 hts (goodIn_of _ (by decide +kernel)) rfl rfl rfl (by decide +kernel) ⟨Nat.le_of_ble_eq_true rfl, Nat.le_of_ble_eq_true rfl⟩) ⟨fun a U g mk q => by obtain ⟨q0, q1, qP, qK, qD, qZ⟩ := q; exact ⟨q0, q1, qP, va_K.moved (u := U) (U := U.calling g mk a) (Vm.Alike.refl U.vm) qK, qD, qZ.call⟩, va_recv hKc hPc (ci := 9) (q0 := 0) rfl rfl, fun U hU hW => ⟨rfl, by rw [hU], by rw [hU]; exact hPc, va_K.moved hW.alike hKc, hDc.weaken (fun _ _ _ _ => trivial), by rw [hU]; exact hZc.warm hW⟩⟩ rfl rfl hl.1 rfl (lv_room (Nat.le_of_ble_eq_true rfl)) dX7_digest_114 ⟨Nat.le_of_ble_eq_true rfl, Nat.le_of_ble_eq_true rfl⟩) hS (fun q _ h => hFc q h) hFc (fun r_52 u t H1 locs ht hvm hw hB hz1 hk1 hS => ?_)
  obtain ⟨hP1, hK1, hD1⟩ := hB
  rw [ht] at hP1
  have hK1 := va_K.moved hvm.symm hK1
  obtain ⟨hP, hD⟩ := va_join (wr := []) (w1 := [(h0, .inr (9, [.ref qm, .ref qt, .ref qw, .ref qc, .ref qb, .ref qg, .int 0, .int 0, .int 0, .int 0, .int 0]))]) hP hD [0] [] rfl rfl (by decide) (by decide) hk1 hFc hP1 hD1
  have hK := (hK.sub (tys' := []) [] rfl).app hK1
  generalize H1 = H at hP hS ⊢
  have hP : va_P (dC, dI) vwCl [(h0, .inr (9, [.ref qm, .ref qt, .ref qw, .ref qc, .ref qb, .ref qg, .int 0, .int 0, .int 0, .int 0, .int 0]))] H := hP
  have hD : va_D A [(h0, .inr (9, [.ref qm, .ref qt, .ref qw, .ref qc, .ref qb, .ref qg, .int 0, .int 0, .int 0, .int 0, .int 0]))] := hD
  have hK : va_K (dC, dI) vwCl [] s := hK
  refine W.widen (k := 0) (n := 0) (Nat.le_of_ble_eq_true rfl) (Nat.le_of_ble_eq_true rfl) ?_
  obtain rfl : r_52 = (-1) := hw
  refine lv_i2l (v := (-1)) hx hb dX7_digest_117 (by decide) ?_
  refine lv_ladd hx hb dX7_digest_118 ?_
  refine lv_topl (fun y_53 ey_53 => ?_)
  obtain rfl : y_53 = 483314258739949443 := ey_53.trans (by decide +kernel)
  have hP9 := hP.sub (ws' := []) [] rfl
  have hD9 := hD.sub (ws' := []) [] (by decide) rfl
  have hK9 := hK.sub (tys' := []) [] rfl
  refine W.widen (k := 0) (n := 0) (Nat.le_of_ble_eq_true rfl) (Nat.le_of_ble_eq_true rfl) ?_
  exact W.lret (v := 483314258739949443) hx hb hr (fun t ht hW => ⟨⟨483314258739949443, (), rfl, rfl, ⟨by rw [ht]; exact hP9, va_K.moved hW.alike hK9, hD9⟩⟩, hS.F ht⟩) hS.2.2 dX7_digest_119

def zs_c_Jx4a65c_grow_92f84 : List Cond := .code yJx4a65c_grow_92f84 cJx4a65c_grow_92f84 4 (some (.array (.object "java/lang/Object"))) :: (([.fieldLink RJx4a65c 9 "java/util/ArrayList" "elementData" "[Ljava/lang/Object;", .fieldLink RJx4a65c 39 "java/util/ArrayList" "DEFAULTCAPACITY_EMPTY_ELEMENTDATA" "[Ljava/lang/Object;", .methodLink RJx4a65c 79 Lib.Math.max.name, .static Lib.Math.max.name, .initialized "java/lang/Math", .code Lib.Math.max.name Lib.Math.max.code 2 (some .int), .classLink RJx4a65c 7 "java/lang/Object"] : List Cond) ++ wsJx4a65c0)
set_option maxHeartbeats 4000000 in
set_option maxRecDepth 100000 in
/-- grow, from nothing -/
theorem c_Jx4a65c_grow_92f84 (l : Launch) (hnt : l.stackTraces = false) (dC : Nat → ClassId) (dI : Nat → Nat → Nat) (a0 : Nat) (h0 : Nat) (k0 : Int32) (sz : Nat)  : Met l yJx4a65c_grow_92f84 zs_c_Jx4a65c_grow_92f84 ({ frames := 1, cells := 1, slots := 10, locals := 14 }) (va_Pc [.ref h0, .int 1] (fun U => U.heap.size = sz ∧ va_P (dC, dI) vwCl [(h0, .inr (1, [.int k0, .ref a0, .int 0]))] U.heap ∧ va_K (dC, dI) vwCl [] U ∧ va_D (fun _ => True) [(h0, .inr (1, [.int k0, .ref a0, .int 0]))] ∧ zB a0 (va_A [(h0, .inr (1, [.int k0, .ref a0, .int 0]))] sz) U U.heap)) (va_Qr (fun _ : Unit => True) (fun _ q t => ∃ (cO : ClassId), va_P (dC, dI) vwCl [(h0, .inr (1, [.int k0, .ref q, .int 0])), (q, .inl (cO, 10, .inr (.inr (.inr (.inr (fun _ => none))))))] t.heap ∧ va_K (dC, dI) vwCl [(cO, .object "java/lang/Object")] t ∧ va_D (va_A [(h0, .inr (1, [.int k0, .ref a0, .int 0]))] sz) [(h0, .inr (1, [.int k0, .ref q, .int 0])), (q, .inl (cO, 10, .inr (.inr (.inr (.inr (fun _ => none))))))]) (va_A [(h0, .inr (1, [.int k0, .ref a0, .int 0]))] sz)) 1 10 (va_A [(h0, .inr (1, [.int k0, .ref a0, .int 0]))] sz) := by
  refine Met.ofW (cc := cJx4a65c_grow_92f84) (maxL := 4) (ret := (some (.array (.object "java/lang/Object")))) (by decide) rfl ?_
  intro p e s m args below meth c s₁ B hml hv
  obtain ⟨rfl, hsz, hP, hK, hD0, hZ⟩ := hv
  have hx := B.exec
  have hb := B.bytes
  have hr := B.returns
  have hts := atoms_spec (ws := zs_c_Jx4a65c_grow_92f84) B.pre
  have hown : s.vm.findClass RJx4a65c = some m.cls := findClass_of_methodNamed B.named
  have hlocks := B.notSynchronized
  have hiJx4a65c : ∀ w ∈ wsJx4a65c0, w ∈ zs_c_Jx4a65c_grow_92f84 := by decide +kernel
  subst hsz
  have hD := hD0.self (sz := s.heap.size)
  generalize hAe : va_A [(h0, .inr (1, [.int k0, .ref a0, .int 0]))] s.heap.size = A at hD hZ ⊢
  have hA : ∀ q : Nat, s.heap.size ≤ q → A q := fun q h => by rw [← hAe]; exact Or.inr h
  have hS : va_S A s.heap s.heap [] := va_S.rf
  have hl := lv_entry ([.ref h0, .int 1]) (n := 4) (Nat.le_of_ble_eq_true rfl)
  rw [lg_entry_eq]
  generalize (lg_sl ([.ref h0, .int 1]) ++ List.replicate (4 - (lg_sl ([.ref h0, .int 1])).length) Slot.unset).toArray = ls at hl ⊢
  have hl : lv_has ls 4 [(0, .ref h0), (1, .int 1)] := hl
  refine lv_aload_n hx hb dJx4a65c_grow_92f84_0 rfl (lv_at hl 0 rfl) ?_
  refine va_get (D := (dC, dI)) (ci := 1) (v := .ref a0) (C := RJx4a65c) (T := TJx4a65c) (N := 3) hx hb hts hiJx4a65c hown hK hP 0 rfl rfl 1 (by decide) (hts (.fieldLink RJx4a65c 9 "java/util/ArrayList" "elementData" "[Ljava/lang/Object;") (by decide +kernel)) (fun _ h9 => h9) rfl dJx4a65c_grow_92f84_1 ?_
  refine va_tlen (v := 0) hx hb hZ.ar hS (by decide) dJx4a65c_grow_92f84_4 ?_
  refine lv_istore_n (lv' := [(2, .int 0), (0, .ref h0), (1, .int 1)]) hx hb dJx4a65c_grow_92f84_5 rfl hl (by decide) rfl (fun ls hl => ?_)
  refine lv_iload_n hx hb dJx4a65c_grow_92f84_6 rfl (lv_at hl 0 rfl) ?_
  refine lv_if_gt (tgt := 20) hx hb dJx4a65c_grow_92f84_7 (by decide) (fun c_1 => ?_) (fun c_1 => ?_)
  · (first | exact absurd c_1 (by decide) | exact absurd (by decide) c_1)
  refine lv_aload_n hx hb dJx4a65c_grow_92f84_10 rfl (lv_at hl 1 rfl) ?_
  refine va_get (D := (dC, dI)) (ci := 1) (v := .ref a0) (C := RJx4a65c) (T := TJx4a65c) (N := 3) hx hb hts hiJx4a65c hown hK hP 0 rfl rfl 1 (by decide) (hts (.fieldLink RJx4a65c 9 "java/util/ArrayList" "elementData" "[Ljava/lang/Object;") (by decide +kernel)) (fun _ h9 => h9) rfl dJx4a65c_grow_92f84_11 ?_
  refine va_gets hx hb hZ.st hS hown (hts (.fieldLink RJx4a65c 39 "java/util/ArrayList" "DEFAULTCAPACITY_EMPTY_ELEMENTDATA" "[Ljava/lang/Object;") (by decide +kernel)) (fun _ h9 => h9) dJx4a65c_grow_92f84_14 ?_
  refine lv_acmp_eq (rx := some a0) (ry := some a0) (tgt := 45) hx hb dJx4a65c_grow_92f84_17 (by decide) (fun c_2 => ?_) (fun c_2 => ?_)
  rotate_left
  · exact absurd rfl c_2
  refine lv_aload_n hx hb dJx4a65c_grow_92f84_45 rfl (lv_at hl 1 rfl) ?_
  refine lv_bipush (v := 10) hx hb dJx4a65c_grow_92f84_46 (by decide) ?_
  refine lv_iload_n hx hb dJx4a65c_grow_92f84_48 rfl (lv_at hl 2 rfl) ?_
  refine va_mmax hx hb (by rw [hml]; exact hl.1.symm) hown (hts (.methodLink RJx4a65c 79 Lib.Math.max.name) (by decide +kernel)) (hts (.static Lib.Math.max.name) (by decide +kernel)) (hts (.initialized "java/lang/Math") (by decide +kernel)) (hts (.code Lib.Math.max.name Lib.Math.max.code 2 (some .int)) (by decide +kernel)) (Nat.le_of_ble_eq_true rfl) (Nat.le_of_ble_eq_true rfl) (Nat.le_of_ble_eq_true rfl) (Nat.le_of_ble_eq_true rfl) dJx4a65c_grow_92f84_49 ?_
  refine lv_topi (fun x_3 ex_3 => ?_)
  obtain rfl : x_3 = 10 := ex_3.trans (by decide)
  refine va_newq (C := "java/lang/Object") (N' := 10) hx hb hown (hts (.classLink RJx4a65c 7 "java/lang/Object") (by decide +kernel)) hZ.aoO hK hP hD hS hA (by decide) (by decide) (Nat.le_of_ble_eq_true rfl) (Nat.le_of_ble_eq_true rfl) (Nat.le_of_ble_eq_true rfl) dJx4a65c_grow_92f84_52 (fun q_4 cy_5 H hK hP hD hS => ?_)
  have hK : va_K (dC, dI) vwCl [(cy_5, .object "java/lang/Object")] s := hK
  have hP : va_P (dC, dI) vwCl [(h0, .inr (1, [.int k0, .ref a0, .int 0])), (q_4, .inl (cy_5, 10, .inr (.inr (.inr (.inr (fun _ => none))))))] H := hP
  have hD : va_D A [(h0, .inr (1, [.int k0, .ref a0, .int 0])), (q_4, .inl (cy_5, 10, .inr (.inr (.inr (.inr (fun _ => none))))))] := hD
  refine W.widen (k := 1) (n := 10) (Nat.le_of_ble_eq_true rfl) (Nat.le_of_ble_eq_true rfl) ?_
  refine lv_dup_x1 hx hb dJx4a65c_grow_92f84_55 rfl rfl ?_
  refine va_put (D := (dC, dI)) (ci := 1) (v := .ref q_4) (ty := .array (.object "java/lang/Object")) (C := RJx4a65c) (T := TJx4a65c) (N := 3) hx hb hts hiJx4a65c tyJx4a65c tyJx4a65c_ok nmJx4a65c hown hK hP hD hS 0 rfl rfl 1 (by decide) (hts (.fieldLink RJx4a65c 9 "java/util/ArrayList" "elementData" "[Ljava/lang/Object;") (by decide +kernel)) (fun _ h9 => h9) rfl (by decide +kernel) rfl rfl (Nat.le_of_ble_eq_true rfl) dJx4a65c_grow_92f84_56 (fun H locs hP hD hS => ?_)
  have hP : va_P (dC, dI) vwCl [(h0, .inr (1, [.int k0, .ref q_4, .int 0])), (q_4, .inl (cy_5, 10, .inr (.inr (.inr (.inr (fun _ => none))))))] H := hP
  have hD : va_D A [(h0, .inr (1, [.int k0, .ref q_4, .int 0])), (q_4, .inl (cy_5, 10, .inr (.inr (.inr (.inr (fun _ => none))))))] := hD
  have hP9 := hP.sub (ws' := [(h0, .inr (1, [.int k0, .ref q_4, .int 0])), (q_4, .inl (cy_5, 10, .inr (.inr (.inr (.inr (fun _ => none))))))]) [0, 1] rfl
  have hD9 := hD.sub (ws' := [(h0, .inr (1, [.int k0, .ref q_4, .int 0])), (q_4, .inl (cy_5, 10, .inr (.inr (.inr (.inr (fun _ => none))))))]) [0, 1] (by decide) rfl
  have hK9 := hK.sub (tys' := [(cy_5, .object "java/lang/Object")]) [0] rfl
  refine W.widen (k := 1) (n := 10) (Nat.le_of_ble_eq_true rfl) (Nat.le_of_ble_eq_true rfl) ?_
  exact W.aret (v := .ref q_4) hx hb hr (Or.inr ⟨_, rfl⟩) (Or.inr ⟨_, rfl⟩) (fun t ht hW => ⟨⟨(), q_4, rfl, trivial, ⟨cy_5, by rw [ht]; exact hP9, va_K.moved hW.alike hK9, hD9⟩⟩, hS.F ht⟩) hS.2.2 dJx4a65c_grow_92f84_59

def zs_c_Jx4a65c_grow_d5877 : List Cond := .code yJx4a65c_grow_d5877 cJx4a65c_grow_d5877 1 (some (.array (.object "java/lang/Object"))) :: (([.fieldLink RJx4a65c 48 "java/util/ArrayList" "size" "I", .code yJx4a65c_grow_92f84 cJx4a65c_grow_92f84 4 (some (.array (.object "java/lang/Object"))), .fieldLink RJx4a65c 9 "java/util/ArrayList" "elementData" "[Ljava/lang/Object;", .fieldLink RJx4a65c 39 "java/util/ArrayList" "DEFAULTCAPACITY_EMPTY_ELEMENTDATA" "[Ljava/lang/Object;", .methodLink RJx4a65c 79 Lib.Math.max.name, .static Lib.Math.max.name, .initialized "java/lang/Math", .code Lib.Math.max.name Lib.Math.max.code 2 (some .int), .classLink RJx4a65c 7 "java/lang/Object", .methodLink RJx4a65c 69 yJx4a65c_grow_92f84, .instanceMethod yJx4a65c_grow_92f84, .initialized RJx4a65c, .selects RJx4a65c yJx4a65c_grow_92f84 yJx4a65c_grow_92f84] : List Cond) ++ wsJx4a65c0)
set_option maxHeartbeats 4000000 in
set_option maxRecDepth 100000 in
/-- grow, from nothing -/
theorem c_Jx4a65c_grow_d5877 (l : Launch) (hnt : l.stackTraces = false) (dC : Nat → ClassId) (dI : Nat → Nat → Nat) (a0 : Nat) (h0 : Nat) (k0 : Int32) (sz : Nat)  : Met l yJx4a65c_grow_d5877 zs_c_Jx4a65c_grow_d5877 ({ frames := 2, cells := 1, slots := 10, locals := 37 }) (va_Pc [.ref h0] (fun U => U.heap.size = sz ∧ va_P (dC, dI) vwCl [(h0, .inr (1, [.int k0, .ref a0, .int 0]))] U.heap ∧ va_K (dC, dI) vwCl [] U ∧ va_D (fun _ => True) [(h0, .inr (1, [.int k0, .ref a0, .int 0]))] ∧ zB a0 (va_A [(h0, .inr (1, [.int k0, .ref a0, .int 0]))] sz) U U.heap)) (va_Qr (fun _ : Unit => True) (fun _ q t => ∃ (cO : ClassId), va_P (dC, dI) vwCl [(h0, .inr (1, [.int k0, .ref q, .int 0])), (q, .inl (cO, 10, .inr (.inr (.inr (.inr (fun _ => none))))))] t.heap ∧ va_K (dC, dI) vwCl [(cO, .object "java/lang/Object")] t ∧ va_D (va_A [(h0, .inr (1, [.int k0, .ref a0, .int 0]))] sz) [(h0, .inr (1, [.int k0, .ref q, .int 0])), (q, .inl (cO, 10, .inr (.inr (.inr (.inr (fun _ => none))))))]) (va_A [(h0, .inr (1, [.int k0, .ref a0, .int 0]))] sz)) 1 10 (va_A [(h0, .inr (1, [.int k0, .ref a0, .int 0]))] sz) := by
  refine Met.ofW (cc := cJx4a65c_grow_d5877) (maxL := 1) (ret := (some (.array (.object "java/lang/Object")))) (by decide) rfl ?_
  intro p e s m args below meth c s₁ B hml hv
  obtain ⟨rfl, hsz, hP, hK, hD0, hZ⟩ := hv
  have hx := B.exec
  have hb := B.bytes
  have hr := B.returns
  have hts := atoms_spec (ws := zs_c_Jx4a65c_grow_d5877) B.pre
  have hown : s.vm.findClass RJx4a65c = some m.cls := findClass_of_methodNamed B.named
  have hlocks := B.notSynchronized
  have hiJx4a65c : ∀ w ∈ wsJx4a65c0, w ∈ zs_c_Jx4a65c_grow_d5877 := by decide +kernel
  subst hsz
  have hD := hD0.self (sz := s.heap.size)
  generalize hAe : va_A [(h0, .inr (1, [.int k0, .ref a0, .int 0]))] s.heap.size = A at hD hZ ⊢
  have hA : ∀ q : Nat, s.heap.size ≤ q → A q := fun q h => by rw [← hAe]; exact Or.inr h
  have hS : va_S A s.heap s.heap [] := va_S.rf
  have hl := lv_entry ([.ref h0]) (n := 1) (Nat.le_of_ble_eq_true rfl)
  rw [lg_entry_eq]
  generalize (lg_sl ([.ref h0]) ++ List.replicate (1 - (lg_sl ([.ref h0])).length) Slot.unset).toArray = ls at hl ⊢
  have hl : lv_has ls 1 [(0, .ref h0)] := hl
  refine lv_aload_n hx hb dJx4a65c_grow_d5877_0 rfl (lv_at hl 0 rfl) ?_
  refine lv_aload_n hx hb dJx4a65c_grow_d5877_1 rfl (lv_at hl 0 rfl) ?_
  refine va_get (D := (dC, dI)) (ci := 1) (v := .int 0) (C := RJx4a65c) (T := TJx4a65c) (N := 3) hx hb hts hiJx4a65c hown hK hP 0 rfl rfl 2 (by decide) (hts (.fieldLink RJx4a65c 48 "java/util/ArrayList" "size" "I") (by decide +kernel)) (fun _ h9 => h9) rfl dJx4a65c_grow_d5877_2 ?_
  refine lv_iconst (v := 1) hx hb dJx4a65c_grow_d5877_5 (by decide) ?_
  refine lv_iadd hx hb dJx4a65c_grow_d5877_6 ?_
  refine lv_topi (fun x_1 ex_1 => ?_)
  obtain rfl : x_1 = 1 := ex_1.trans (by decide)
  have hPc := hP.sub (ws' := [(h0, .inr (1, [.int k0, .ref a0, .int 0]))]) [0] rfl
  have hDc := hD.sub (ws' := [(h0, .inr (1, [.int k0, .ref a0, .int 0]))]) [0] (by decide) rfl
  have hKc := hK.sub (tys' := []) [] rfl
  have hFc := va_free (wc := [(h0, .inr (1, [.int k0, .ref a0, .int 0]))]) hD hS hA [0] rfl
  have hZc := ((hZ.kept hS.2.1).narrow hFc)
  refine va_callr (va_runV (As := [.int 1]) (rest := []) ⟨hx, hb, hml, hown, hts⟩ (c_Jx4a65c_grow_92f84 l hnt dC dI a0 h0 k0 s.heap.size ) (cwV 1 hts (goodIn_of _ (by decide +kernel)) rfl rfl rfl (by decide +kernel) ⟨Nat.le_of_ble_eq_true rfl, Nat.le_of_ble_eq_true rfl⟩) ⟨fun a U g mk q => by obtain ⟨q0, q1, qP, qK, qD, qZ⟩ := q; exact ⟨q0, q1, qP, va_K.moved (u := U) (U := U.calling g mk a) (Vm.Alike.refl U.vm) qK, qD, qZ.call⟩, va_recv hKc hPc (ci := 1) (q0 := 0) rfl rfl, fun U hU hW => ⟨rfl, by rw [hU], by rw [hU]; exact hPc, va_K.moved hW.alike hKc, hDc.weaken (fun _ _ _ _ => trivial), by rw [hU]; exact hZc.warm hW⟩⟩ rfl rfl hl.1 rfl (lv_room (Nat.le_of_ble_eq_true rfl)) dJx4a65c_grow_d5877_7 ⟨Nat.le_of_ble_eq_true rfl, Nat.le_of_ble_eq_true rfl⟩) hS (fun q _ h => hFc q h) hFc (fun u r_2 t H1 locs ht hvm hw hB hz1 hk1 hS => ?_)
  obtain ⟨cO_3, hP1, hK1, hD1⟩ := hB
  rw [ht] at hP1
  have hK1 := va_K.moved hvm.symm hK1
  obtain ⟨hP, hD⟩ := va_join (wr := []) (w1 := [(h0, .inr (1, [.int k0, .ref r_2, .int 0])), (r_2, .inl (cO_3, 10, .inr (.inr (.inr (.inr (fun _ => none))))))]) hP hD [0] [] rfl rfl (by decide) (by decide) hk1 hFc hP1 hD1
  have hK := (hK.sub (tys' := []) [] rfl).app hK1
  generalize H1 = H at hP hS ⊢
  have hP : va_P (dC, dI) vwCl [(h0, .inr (1, [.int k0, .ref r_2, .int 0])), (r_2, .inl (cO_3, 10, .inr (.inr (.inr (.inr (fun _ => none))))))] H := hP
  have hD : va_D A [(h0, .inr (1, [.int k0, .ref r_2, .int 0])), (r_2, .inl (cO_3, 10, .inr (.inr (.inr (.inr (fun _ => none))))))] := hD
  have hK : va_K (dC, dI) vwCl [(cO_3, .object "java/lang/Object")] s := hK
  refine W.widen (k := 1) (n := 10) (Nat.le_of_ble_eq_true rfl) (Nat.le_of_ble_eq_true rfl) ?_
  have hP9 := hP.sub (ws' := [(h0, .inr (1, [.int k0, .ref r_2, .int 0])), (r_2, .inl (cO_3, 10, .inr (.inr (.inr (.inr (fun _ => none))))))]) [0, 1] rfl
  have hD9 := hD.sub (ws' := [(h0, .inr (1, [.int k0, .ref r_2, .int 0])), (r_2, .inl (cO_3, 10, .inr (.inr (.inr (.inr (fun _ => none))))))]) [0, 1] (by decide) rfl
  have hK9 := hK.sub (tys' := [(cO_3, .object "java/lang/Object")]) [0] rfl
  refine W.widen (k := 1) (n := 10) (Nat.le_of_ble_eq_true rfl) (Nat.le_of_ble_eq_true rfl) ?_
  exact W.aret (v := .ref r_2) hx hb hr (Or.inr ⟨_, rfl⟩) (Or.inr ⟨_, rfl⟩) (fun t ht hW => ⟨⟨(), r_2, rfl, trivial, ⟨cO_3, by rw [ht]; exact hP9, va_K.moved hW.alike hK9, hD9⟩⟩, hS.F ht⟩) hS.2.2 dJx4a65c_grow_d5877_10

def zs_c_Jx4a65c_add_72be8_M : List Cond := .code yJx4a65c_add_72be8 cJx4a65c_add_72be8 4 none :: (([.code yJx4a65c_grow_d5877 cJx4a65c_grow_d5877 1 (some (.array (.object "java/lang/Object"))), .fieldLink RJx4a65c 48 "java/util/ArrayList" "size" "I", .code yJx4a65c_grow_92f84 cJx4a65c_grow_92f84 4 (some (.array (.object "java/lang/Object"))), .fieldLink RJx4a65c 9 "java/util/ArrayList" "elementData" "[Ljava/lang/Object;", .fieldLink RJx4a65c 39 "java/util/ArrayList" "DEFAULTCAPACITY_EMPTY_ELEMENTDATA" "[Ljava/lang/Object;", .methodLink RJx4a65c 79 Lib.Math.max.name, .static Lib.Math.max.name, .initialized "java/lang/Math", .code Lib.Math.max.name Lib.Math.max.code 2 (some .int), .classLink RJx4a65c 7 "java/lang/Object", .methodLink RJx4a65c 69 yJx4a65c_grow_92f84, .instanceMethod yJx4a65c_grow_92f84, .initialized RJx4a65c, .selects RJx4a65c yJx4a65c_grow_92f84 yJx4a65c_grow_92f84, .methodLink RJx4a65c 129 yJx4a65c_grow_d5877, .instanceMethod yJx4a65c_grow_d5877, .selects RJx4a65c yJx4a65c_grow_d5877 yJx4a65c_grow_d5877] : List Cond) ++ wsJx4a65c0)
set_option maxHeartbeats 4000000 in
set_option maxRecDepth 100000 in
/-- add, the first -/
theorem c_Jx4a65c_add_72be8_M (l : Launch) (hnt : l.stackTraces = false) (dC : Nat → ClassId) (dI : Nat → Nat → Nat) (a0 : Nat) (h0 : Nat) (h1 : Nat) (k0 : Int32) (u0 : Int32) (u1 : Nat) (u2 : Int32) (u3 : Int32) (u4 : Int32) (sz : Nat)  : Met l yJx4a65c_add_72be8 zs_c_Jx4a65c_add_72be8_M ({ frames := 3, cells := 1, slots := 10, locals := 57 }) (va_Pc [.ref h0, .ref h1, .ref a0, .int 0] (fun U => U.heap.size = sz ∧ va_P (dC, dI) vwCl [(h0, .inr (1, [.int k0, .ref a0, .int 0])), (h1, .inr (10, [.int u0, .ref u1, .int u2, .int u3, .int u4]))] U.heap ∧ va_K (dC, dI) vwCl [] U ∧ va_D (fun _ => True) [(h0, .inr (1, [.int k0, .ref a0, .int 0])), (h1, .inr (10, [.int u0, .ref u1, .int u2, .int u3, .int u4]))] ∧ zB a0 (va_A [(h0, .inr (1, [.int k0, .ref a0, .int 0])), (h1, .inr (10, [.int u0, .ref u1, .int u2, .int u3, .int u4]))] sz) U U.heap)) (va_Qv (fun _ : Unit => True) (fun _ t => ∃ (q : Nat), va_P (dC, dI) vwCl [(h0, .inr (1, [.int k0, .ref q, .int 1]))] t.heap ∧ va_K (dC, dI) vwCl [] t ∧ va_D (va_A [(h0, .inr (1, [.int k0, .ref a0, .int 0])), (h1, .inr (10, [.int u0, .ref u1, .int u2, .int u3, .int u4]))] sz) [(h0, .inr (1, [.int k0, .ref q, .int 1]))]) (va_A [(h0, .inr (1, [.int k0, .ref a0, .int 0])), (h1, .inr (10, [.int u0, .ref u1, .int u2, .int u3, .int u4]))] sz)) 1 10 (va_A [(h0, .inr (1, [.int k0, .ref a0, .int 0])), (h1, .inr (10, [.int u0, .ref u1, .int u2, .int u3, .int u4]))] sz) := by
  refine Met.ofW (cc := cJx4a65c_add_72be8) (maxL := 4) (ret := none) (by decide) rfl ?_
  intro p e s m args below meth c s₁ B hml hv
  obtain ⟨rfl, hsz, hP, hK, hD0, hZ⟩ := hv
  have hx := B.exec
  have hb := B.bytes
  have hr := B.returns
  have hts := atoms_spec (ws := zs_c_Jx4a65c_add_72be8_M) B.pre
  have hown : s.vm.findClass RJx4a65c = some m.cls := findClass_of_methodNamed B.named
  have hlocks := B.notSynchronized
  have hiJx4a65c : ∀ w ∈ wsJx4a65c0, w ∈ zs_c_Jx4a65c_add_72be8_M := by decide +kernel
  subst hsz
  have hD := hD0.self (sz := s.heap.size)
  generalize hAe : va_A [(h0, .inr (1, [.int k0, .ref a0, .int 0])), (h1, .inr (10, [.int u0, .ref u1, .int u2, .int u3, .int u4]))] s.heap.size = A at hD hZ ⊢
  have hA : ∀ q : Nat, s.heap.size ≤ q → A q := fun q h => by rw [← hAe]; exact Or.inr h
  have hS : va_S A s.heap s.heap [] := va_S.rf
  have hl := lv_entry ([.ref h0, .ref h1, .ref a0, .int 0]) (n := 4) (Nat.le_of_ble_eq_true rfl)
  rw [lg_entry_eq]
  generalize (lg_sl ([.ref h0, .ref h1, .ref a0, .int 0]) ++ List.replicate (4 - (lg_sl ([.ref h0, .ref h1, .ref a0, .int 0])).length) Slot.unset).toArray = ls at hl ⊢
  have hl : lv_has ls 4 [(0, .ref h0), (1, .ref h1), (2, .ref a0), (3, .int 0)] := hl
  refine lv_iload_n hx hb dJx4a65c_add_72be8_0 rfl (lv_at hl 3 rfl) ?_
  refine lv_aload_n hx hb dJx4a65c_add_72be8_1 rfl (lv_at hl 2 rfl) ?_
  refine va_tlen (v := 0) hx hb hZ.ar hS (by decide) dJx4a65c_add_72be8_2 ?_
  refine lv_icmp_ne (tgt := 11) hx hb dJx4a65c_add_72be8_3 (by decide) (fun c_1 => ?_) (fun c_1 => ?_)
  · (first | exact absurd c_1 (by decide) | exact absurd (by decide) c_1)
  refine lv_aload_n hx hb dJx4a65c_add_72be8_6 rfl (lv_at hl 0 rfl) ?_
  have hPc := hP.sub (ws' := [(h0, .inr (1, [.int k0, .ref a0, .int 0]))]) [0] rfl
  have hDc := hD.sub (ws' := [(h0, .inr (1, [.int k0, .ref a0, .int 0]))]) [0] (by decide) rfl
  have hKc := hK.sub (tys' := []) [] rfl
  have hFc := va_free (wc := [(h0, .inr (1, [.int k0, .ref a0, .int 0]))]) hD hS hA [0] rfl
  have hZc := ((hZ.kept hS.2.1).narrow hFc)
  refine va_callr (va_runV (As := []) (rest := []) ⟨hx, hb, hml, hown, hts⟩ (c_Jx4a65c_grow_d5877 l hnt dC dI a0 h0 k0 s.heap.size ) (cwV 0 hts (goodIn_of _ (by decide +kernel)) rfl rfl rfl (by decide +kernel) ⟨Nat.le_of_ble_eq_true rfl, Nat.le_of_ble_eq_true rfl⟩) ⟨fun a U g mk q => by obtain ⟨q0, q1, qP, qK, qD, qZ⟩ := q; exact ⟨q0, q1, qP, va_K.moved (u := U) (U := U.calling g mk a) (Vm.Alike.refl U.vm) qK, qD, qZ.call⟩, va_recv hKc hPc (ci := 1) (q0 := 0) rfl rfl, fun U hU hW => ⟨rfl, by rw [hU], by rw [hU]; exact hPc, va_K.moved hW.alike hKc, hDc.weaken (fun _ _ _ _ => trivial), by rw [hU]; exact hZc.warm hW⟩⟩ rfl rfl hl.1 rfl (lv_room (Nat.le_of_ble_eq_true rfl)) dJx4a65c_add_72be8_7 ⟨Nat.le_of_ble_eq_true rfl, Nat.le_of_ble_eq_true rfl⟩) hS (fun q _ h => hFc q h) hFc (fun u r_2 t H1 locs ht hvm hw hB hz1 hk1 hS => ?_)
  obtain ⟨cO_3, hP1, hK1, hD1⟩ := hB
  rw [ht] at hP1
  have hK1 := va_K.moved hvm.symm hK1
  obtain ⟨hP, hD⟩ := va_join (wr := [(h1, .inr (10, [.int u0, .ref u1, .int u2, .int u3, .int u4]))]) (w1 := [(h0, .inr (1, [.int k0, .ref r_2, .int 0])), (r_2, .inl (cO_3, 10, .inr (.inr (.inr (.inr (fun _ => none))))))]) hP hD [0] [1] rfl rfl (by decide) (by decide) hk1 hFc hP1 hD1
  have hK := (hK.sub (tys' := []) [] rfl).app hK1
  generalize H1 = H at hP hS ⊢
  have hP : va_P (dC, dI) vwCl [(h1, .inr (10, [.int u0, .ref u1, .int u2, .int u3, .int u4])), (h0, .inr (1, [.int k0, .ref r_2, .int 0])), (r_2, .inl (cO_3, 10, .inr (.inr (.inr (.inr (fun _ => none))))))] H := hP
  have hD : va_D A [(h1, .inr (10, [.int u0, .ref u1, .int u2, .int u3, .int u4])), (h0, .inr (1, [.int k0, .ref r_2, .int 0])), (r_2, .inl (cO_3, 10, .inr (.inr (.inr (.inr (fun _ => none))))))] := hD
  have hK : va_K (dC, dI) vwCl [(cO_3, .object "java/lang/Object")] s := hK
  refine W.widen (k := 1) (n := 10) (Nat.le_of_ble_eq_true rfl) (Nat.le_of_ble_eq_true rfl) ?_
  refine lv_astore_n (lv' := [(2, .ref r_2), (0, .ref h0), (1, .ref h1), (3, .int 0)]) hx hb dJx4a65c_add_72be8_10 rfl hl (by decide) rfl (fun ls hl => ?_)
  refine lv_aload_n hx hb dJx4a65c_add_72be8_11 rfl (lv_at hl 0 rfl) ?_
  refine lv_iload_n hx hb dJx4a65c_add_72be8_12 rfl (lv_at hl 3 rfl) ?_
  refine lv_aload_n hx hb dJx4a65c_add_72be8_13 rfl (lv_at hl 2 rfl) ?_
  refine va_astqM hx hb hK hP hD hS 2 0 rfl rfl (zz_anyM hK hP 0 rfl rfl hZ.caM) (by unfold vp_in; decide) dJx4a65c_add_72be8_14 (fun H locs hP hD hS => ?_)
  have hP : va_P (dC, dI) vwCl [(h1, .inr (10, [.int u0, .ref u1, .int u2, .int u3, .int u4])), (h0, .inr (1, [.int k0, .ref r_2, .int 0])), (r_2, .inl (cO_3, 10, .inr (.inr (.inr (.inr (va_up (fun _ => none) ((0 : Int32).toNatClampNeg) (some h1)))))))] H := hP
  have hD : va_D A [(h1, .inr (10, [.int u0, .ref u1, .int u2, .int u3, .int u4])), (h0, .inr (1, [.int k0, .ref r_2, .int 0])), (r_2, .inl (cO_3, 10, .inr (.inr (.inr (.inr (va_up (fun _ => none) ((0 : Int32).toNatClampNeg) (some h1)))))))] := hD
  refine lv_aload_n hx hb dJx4a65c_add_72be8_15 rfl (lv_at hl 1 rfl) ?_
  refine lv_iload_n hx hb dJx4a65c_add_72be8_16 rfl (lv_at hl 3 rfl) ?_
  refine lv_iconst (v := 1) hx hb dJx4a65c_add_72be8_17 (by decide) ?_
  refine lv_iadd hx hb dJx4a65c_add_72be8_18 ?_
  refine lv_topi (fun x_4 ex_4 => ?_)
  obtain rfl : x_4 = 1 := ex_4.trans (by decide)
  refine va_put (D := (dC, dI)) (ci := 1) (v := .int 1) (ty := .int) (C := RJx4a65c) (T := TJx4a65c) (N := 3) hx hb hts hiJx4a65c tyJx4a65c tyJx4a65c_ok nmJx4a65c hown hK hP hD hS 1 rfl rfl 2 (by decide) (hts (.fieldLink RJx4a65c 48 "java/util/ArrayList" "size" "I") (by decide +kernel)) (fun _ h9 => h9) rfl (by decide +kernel) rfl rfl (Nat.le_of_ble_eq_true rfl) dJx4a65c_add_72be8_19 (fun H locs hP hD hS => ?_)
  have hP : va_P (dC, dI) vwCl [(h1, .inr (10, [.int u0, .ref u1, .int u2, .int u3, .int u4])), (h0, .inr (1, [.int k0, .ref r_2, .int 1])), (r_2, .inl (cO_3, 10, .inr (.inr (.inr (.inr (va_up (fun _ => none) ((0 : Int32).toNatClampNeg) (some h1)))))))] H := hP
  have hD : va_D A [(h1, .inr (10, [.int u0, .ref u1, .int u2, .int u3, .int u4])), (h0, .inr (1, [.int k0, .ref r_2, .int 1])), (r_2, .inl (cO_3, 10, .inr (.inr (.inr (.inr (va_up (fun _ => none) ((0 : Int32).toNatClampNeg) (some h1)))))))] := hD
  have hP9 := hP.sub (ws' := [(h0, .inr (1, [.int k0, .ref r_2, .int 1]))]) [1] rfl
  have hD9 := hD.sub (ws' := [(h0, .inr (1, [.int k0, .ref r_2, .int 1]))]) [1] (by decide) rfl
  have hK9 := hK.sub (tys' := []) [] rfl
  refine W.widen (k := 1) (n := 10) (Nat.le_of_ble_eq_true rfl) (Nat.le_of_ble_eq_true rfl) ?_
  exact W.vret hx hb hr (fun t ht hW => ⟨⟨(), rfl, trivial, ⟨r_2, by rw [ht]; exact hP9, va_K.moved hW.alike hK9, hD9⟩⟩, hS.F ht⟩) hS.2.2 dJx4a65c_add_72be8_22

def zs_c_Jx4a65c_add_9ea2d_M : List Cond := .code yJx4a65c_add_9ea2d cJx4a65c_add_9ea2d 2 (some .boolean) :: (([.sameField "java/util/ArrayList" "java/util/AbstractList" "modCount" "I", .fieldLink RJx4a65c 63 "java/util/ArrayList" "modCount" "I", .fieldLink RJx4a65c 9 "java/util/ArrayList" "elementData" "[Ljava/lang/Object;", .fieldLink RJx4a65c 48 "java/util/ArrayList" "size" "I", .code yJx4a65c_add_72be8 cJx4a65c_add_72be8 4 none, .code yJx4a65c_grow_d5877 cJx4a65c_grow_d5877 1 (some (.array (.object "java/lang/Object"))), .code yJx4a65c_grow_92f84 cJx4a65c_grow_92f84 4 (some (.array (.object "java/lang/Object"))), .fieldLink RJx4a65c 39 "java/util/ArrayList" "DEFAULTCAPACITY_EMPTY_ELEMENTDATA" "[Ljava/lang/Object;", .methodLink RJx4a65c 79 Lib.Math.max.name, .static Lib.Math.max.name, .initialized "java/lang/Math", .code Lib.Math.max.name Lib.Math.max.code 2 (some .int), .classLink RJx4a65c 7 "java/lang/Object", .methodLink RJx4a65c 69 yJx4a65c_grow_92f84, .instanceMethod yJx4a65c_grow_92f84, .initialized RJx4a65c, .selects RJx4a65c yJx4a65c_grow_92f84 yJx4a65c_grow_92f84, .methodLink RJx4a65c 129 yJx4a65c_grow_d5877, .instanceMethod yJx4a65c_grow_d5877, .selects RJx4a65c yJx4a65c_grow_d5877 yJx4a65c_grow_d5877, .methodLink RJx4a65c 131 yJx4a65c_add_72be8, .instanceMethod yJx4a65c_add_72be8, .selects RJx4a65c yJx4a65c_add_72be8 yJx4a65c_add_72be8] : List Cond) ++ wsJx4a65c0)
set_option maxHeartbeats 4000000 in
set_option maxRecDepth 100000 in
/-- add, the first -/
theorem c_Jx4a65c_add_9ea2d_M (l : Launch) (hnt : l.stackTraces = false) (dC : Nat → ClassId) (dI : Nat → Nat → Nat) (a0 : Nat) (h0 : Nat) (h1 : Nat) (u0 : Int32) (u1 : Nat) (u2 : Int32) (u3 : Int32) (u4 : Int32) (sz : Nat)  : Met l yJx4a65c_add_9ea2d zs_c_Jx4a65c_add_9ea2d_M ({ frames := 4, cells := 1, slots := 10, locals := 80 }) (va_Pc [.ref h0, .ref h1] (fun U => U.heap.size = sz ∧ va_P (dC, dI) vwCl [(h0, .inr (1, [.int 0, .ref a0, .int 0])), (h1, .inr (10, [.int u0, .ref u1, .int u2, .int u3, .int u4]))] U.heap ∧ va_K (dC, dI) vwCl [] U ∧ va_D (fun _ => True) [(h0, .inr (1, [.int 0, .ref a0, .int 0])), (h1, .inr (10, [.int u0, .ref u1, .int u2, .int u3, .int u4]))] ∧ zB a0 (va_A [(h0, .inr (1, [.int 0, .ref a0, .int 0])), (h1, .inr (10, [.int u0, .ref u1, .int u2, .int u3, .int u4]))] sz) U U.heap)) (va_Qi (fun (r : Int32) (_ : Unit) => r = 1) (fun _ t => ∃ (q : Nat), va_P (dC, dI) vwCl [(h0, .inr (1, [.int 1, .ref q, .int 1]))] t.heap ∧ va_K (dC, dI) vwCl [] t ∧ va_D (va_A [(h0, .inr (1, [.int 0, .ref a0, .int 0])), (h1, .inr (10, [.int u0, .ref u1, .int u2, .int u3, .int u4]))] sz) [(h0, .inr (1, [.int 1, .ref q, .int 1]))]) (va_A [(h0, .inr (1, [.int 0, .ref a0, .int 0])), (h1, .inr (10, [.int u0, .ref u1, .int u2, .int u3, .int u4]))] sz)) 1 10 (va_A [(h0, .inr (1, [.int 0, .ref a0, .int 0])), (h1, .inr (10, [.int u0, .ref u1, .int u2, .int u3, .int u4]))] sz) := by
  refine Met.ofW (cc := cJx4a65c_add_9ea2d) (maxL := 2) (ret := (some .boolean)) (by decide) rfl ?_
  intro p e s m args below meth c s₁ B hml hv
  obtain ⟨rfl, hsz, hP, hK, hD0, hZ⟩ := hv
  have hx := B.exec
  have hb := B.bytes
  have hr := B.returns
  have hts := atoms_spec (ws := zs_c_Jx4a65c_add_9ea2d_M) B.pre
  have hown : s.vm.findClass RJx4a65c = some m.cls := findClass_of_methodNamed B.named
  have hlocks := B.notSynchronized
  have hiJx4a65c : ∀ w ∈ wsJx4a65c0, w ∈ zs_c_Jx4a65c_add_9ea2d_M := by decide +kernel
  subst hsz
  have hD := hD0.self (sz := s.heap.size)
  generalize hAe : va_A [(h0, .inr (1, [.int 0, .ref a0, .int 0])), (h1, .inr (10, [.int u0, .ref u1, .int u2, .int u3, .int u4]))] s.heap.size = A at hD hZ ⊢
  have hA : ∀ q : Nat, s.heap.size ≤ q → A q := fun q h => by rw [← hAe]; exact Or.inr h
  have hS : va_S A s.heap s.heap [] := va_S.rf
  have hl := lv_entry ([.ref h0, .ref h1]) (n := 2) (Nat.le_of_ble_eq_true rfl)
  rw [lg_entry_eq]
  generalize (lg_sl ([.ref h0, .ref h1]) ++ List.replicate (2 - (lg_sl ([.ref h0, .ref h1])).length) Slot.unset).toArray = ls at hl ⊢
  have hl : lv_has ls 2 [(0, .ref h0), (1, .ref h1)] := hl
  refine lv_aload_n hx hb dJx4a65c_add_9ea2d_0 rfl (lv_at hl 0 rfl) ?_
  refine lv_dup hx hb dJx4a65c_add_9ea2d_1 rfl ?_
  refine va_get (D := (dC, dI)) (ci := 1) (v := .int 0) (C := RJx4a65c) (T := TJx4a65c) (N := 3) hx hb hts hiJx4a65c hown hK hP 0 rfl rfl 0 (by decide) (hts (.fieldLink RJx4a65c 63 "java/util/ArrayList" "modCount" "I") (by decide +kernel)) (u_same (hts (.sameField "java/util/ArrayList" "java/util/AbstractList" "modCount" "I") (by decide +kernel))) rfl dJx4a65c_add_9ea2d_2 ?_
  refine lv_iconst (v := 1) hx hb dJx4a65c_add_9ea2d_5 (by decide) ?_
  refine lv_iadd hx hb dJx4a65c_add_9ea2d_6 ?_
  refine lv_topi (fun x_1 ex_1 => ?_)
  obtain rfl : x_1 = 1 := ex_1.trans (by decide)
  refine va_put (D := (dC, dI)) (ci := 1) (v := .int 1) (ty := .int) (C := RJx4a65c) (T := TJx4a65c) (N := 3) hx hb hts hiJx4a65c tyJx4a65c tyJx4a65c_ok nmJx4a65c hown hK hP hD hS 0 rfl rfl 0 (by decide) (hts (.fieldLink RJx4a65c 63 "java/util/ArrayList" "modCount" "I") (by decide +kernel)) (u_same (hts (.sameField "java/util/ArrayList" "java/util/AbstractList" "modCount" "I") (by decide +kernel))) rfl (by decide +kernel) rfl rfl (Nat.le_of_ble_eq_true rfl) dJx4a65c_add_9ea2d_7 (fun H locs hP hD hS => ?_)
  have hP : va_P (dC, dI) vwCl [(h0, .inr (1, [.int 1, .ref a0, .int 0])), (h1, .inr (10, [.int u0, .ref u1, .int u2, .int u3, .int u4]))] H := hP
  have hD : va_D A [(h0, .inr (1, [.int 1, .ref a0, .int 0])), (h1, .inr (10, [.int u0, .ref u1, .int u2, .int u3, .int u4]))] := hD
  refine lv_aload_n hx hb dJx4a65c_add_9ea2d_10 rfl (lv_at hl 0 rfl) ?_
  refine lv_aload_n hx hb dJx4a65c_add_9ea2d_11 rfl (lv_at hl 1 rfl) ?_
  refine lv_aload_n hx hb dJx4a65c_add_9ea2d_12 rfl (lv_at hl 0 rfl) ?_
  refine va_get (D := (dC, dI)) (ci := 1) (v := .ref a0) (C := RJx4a65c) (T := TJx4a65c) (N := 3) hx hb hts hiJx4a65c hown hK hP 0 rfl rfl 1 (by decide) (hts (.fieldLink RJx4a65c 9 "java/util/ArrayList" "elementData" "[Ljava/lang/Object;") (by decide +kernel)) (fun _ h9 => h9) rfl dJx4a65c_add_9ea2d_13 ?_
  refine lv_aload_n hx hb dJx4a65c_add_9ea2d_16 rfl (lv_at hl 0 rfl) ?_
  refine va_get (D := (dC, dI)) (ci := 1) (v := .int 0) (C := RJx4a65c) (T := TJx4a65c) (N := 3) hx hb hts hiJx4a65c hown hK hP 0 rfl rfl 2 (by decide) (hts (.fieldLink RJx4a65c 48 "java/util/ArrayList" "size" "I") (by decide +kernel)) (fun _ h9 => h9) rfl dJx4a65c_add_9ea2d_17 ?_
  have hPc := hP.sub (ws' := [(h0, .inr (1, [.int 1, .ref a0, .int 0])), (h1, .inr (10, [.int u0, .ref u1, .int u2, .int u3, .int u4]))]) [0, 1] rfl
  have hDc := hD.sub (ws' := [(h0, .inr (1, [.int 1, .ref a0, .int 0])), (h1, .inr (10, [.int u0, .ref u1, .int u2, .int u3, .int u4]))]) [0, 1] (by decide) rfl
  have hKc := hK.sub (tys' := []) [] rfl
  have hFc := va_free (wc := [(h0, .inr (1, [.int 1, .ref a0, .int 0])), (h1, .inr (10, [.int u0, .ref u1, .int u2, .int u3, .int u4]))]) hD hS hA [0, 1] rfl
  have hZc := ((hZ.kept hS.2.1).narrow hFc)
  refine va_callv (va_runV (As := [.ref h1, .ref a0, .int 0]) (rest := []) ⟨hx, hb, hml, hown, hts⟩ (c_Jx4a65c_add_72be8_M l hnt dC dI a0 h0 h1 1 u0 u1 u2 u3 u4 H.size ) (cwV 3 hts (goodIn_of _ (by decide +kernel)) rfl rfl rfl (by decide +kernel) ⟨Nat.le_of_ble_eq_true rfl, Nat.le_of_ble_eq_true rfl⟩) ⟨fun a U g mk q => by obtain ⟨q0, q1, qP, qK, qD, qZ⟩ := q; exact ⟨q0, q1, qP, va_K.moved (u := U) (U := U.calling g mk a) (Vm.Alike.refl U.vm) qK, qD, qZ.call⟩, va_recv hKc hPc (ci := 1) (q0 := 0) rfl rfl, fun U hU hW => ⟨rfl, by rw [hU], by rw [hU]; exact hPc, va_K.moved hW.alike hKc, hDc.weaken (fun _ _ _ _ => trivial), by rw [hU]; exact hZc.warm hW⟩⟩ rfl rfl hl.1 rfl (lv_room (Nat.le_of_ble_eq_true rfl)) dJx4a65c_add_9ea2d_20 ⟨Nat.le_of_ble_eq_true rfl, Nat.le_of_ble_eq_true rfl⟩) hS (fun q _ h => hFc q h) hFc (fun u t H1 locs ht hvm hw hB hz1 hk1 hS => ?_)
  obtain ⟨q_3, hP1, hK1, hD1⟩ := hB
  rw [ht] at hP1
  have hK1 := va_K.moved hvm.symm hK1
  obtain ⟨hP, hD⟩ := va_join (wr := []) (w1 := [(h0, .inr (1, [.int 1, .ref q_3, .int 1]))]) hP hD [0, 1] [] rfl rfl (by decide) (by decide) hk1 hFc hP1 hD1
  have hK := (hK.sub (tys' := []) [] rfl).app hK1
  generalize H1 = H at hP hS ⊢
  have hP : va_P (dC, dI) vwCl [(h0, .inr (1, [.int 1, .ref q_3, .int 1]))] H := hP
  have hD : va_D A [(h0, .inr (1, [.int 1, .ref q_3, .int 1]))] := hD
  have hK : va_K (dC, dI) vwCl [] s := hK
  refine W.widen (k := 1) (n := 10) (Nat.le_of_ble_eq_true rfl) (Nat.le_of_ble_eq_true rfl) ?_
  refine lv_iconst (v := 1) hx hb dJx4a65c_add_9ea2d_23 (by decide) ?_
  have hP9 := hP.sub (ws' := [(h0, .inr (1, [.int 1, .ref q_3, .int 1]))]) [0] rfl
  have hD9 := hD.sub (ws' := [(h0, .inr (1, [.int 1, .ref q_3, .int 1]))]) [0] (by decide) rfl
  have hK9 := hK.sub (tys' := []) [] rfl
  refine W.widen (k := 1) (n := 10) (Nat.le_of_ble_eq_true rfl) (Nat.le_of_ble_eq_true rfl) ?_
  exact W.zret (v := 1) hx hb hr (by decide) (fun t ht hW => ⟨⟨1, (), rfl, rfl, ⟨q_3, by rw [ht]; exact hP9, va_K.moved hW.alike hK9, hD9⟩⟩, hS.F ht⟩) hS.2.2 dJx4a65c_add_9ea2d_24

def zs_c_Jx4a65c_add_72be8_I : List Cond := .code yJx4a65c_add_72be8 cJx4a65c_add_72be8 4 none :: (([.code yJx4a65c_grow_d5877 cJx4a65c_grow_d5877 1 (some (.array (.object "java/lang/Object"))), .fieldLink RJx4a65c 48 "java/util/ArrayList" "size" "I", .code yJx4a65c_grow_92f84 cJx4a65c_grow_92f84 4 (some (.array (.object "java/lang/Object"))), .fieldLink RJx4a65c 9 "java/util/ArrayList" "elementData" "[Ljava/lang/Object;", .fieldLink RJx4a65c 39 "java/util/ArrayList" "DEFAULTCAPACITY_EMPTY_ELEMENTDATA" "[Ljava/lang/Object;", .methodLink RJx4a65c 79 Lib.Math.max.name, .static Lib.Math.max.name, .initialized "java/lang/Math", .code Lib.Math.max.name Lib.Math.max.code 2 (some .int), .classLink RJx4a65c 7 "java/lang/Object", .methodLink RJx4a65c 69 yJx4a65c_grow_92f84, .instanceMethod yJx4a65c_grow_92f84, .initialized RJx4a65c, .selects RJx4a65c yJx4a65c_grow_92f84 yJx4a65c_grow_92f84, .methodLink RJx4a65c 129 yJx4a65c_grow_d5877, .instanceMethod yJx4a65c_grow_d5877, .selects RJx4a65c yJx4a65c_grow_d5877 yJx4a65c_grow_d5877] : List Cond) ++ wsJx4a65c0)
set_option maxHeartbeats 4000000 in
set_option maxRecDepth 100000 in
/-- add, the first -/
theorem c_Jx4a65c_add_72be8_I (l : Launch) (hnt : l.stackTraces = false) (dC : Nat → ClassId) (dI : Nat → Nat → Nat) (a0 : Nat) (h0 : Nat) (h1 : Nat) (k0 : Int32) (u0 : Nat → Int32) (cI : ClassId) (sz : Nat)  : Met l yJx4a65c_add_72be8 zs_c_Jx4a65c_add_72be8_I ({ frames := 3, cells := 1, slots := 10, locals := 57 }) (va_Pc [.ref h0, .ref h1, .ref a0, .int 0] (fun U => U.heap.size = sz ∧ va_P (dC, dI) vwCl [(h0, .inr (1, [.int k0, .ref a0, .int 0])), (h1, .inl (cI, 3, .inl (u0)))] U.heap ∧ va_K (dC, dI) vwCl [(cI, .int)] U ∧ va_D (fun _ => True) [(h0, .inr (1, [.int k0, .ref a0, .int 0])), (h1, .inl (cI, 3, .inl (u0)))] ∧ zB a0 (va_A [(h0, .inr (1, [.int k0, .ref a0, .int 0])), (h1, .inl (cI, 3, .inl (u0)))] sz) U U.heap)) (va_Qv (fun _ : Unit => True) (fun _ t => ∃ (q : Nat), va_P (dC, dI) vwCl [(h0, .inr (1, [.int k0, .ref q, .int 1]))] t.heap ∧ va_K (dC, dI) vwCl [] t ∧ va_D (va_A [(h0, .inr (1, [.int k0, .ref a0, .int 0])), (h1, .inl (cI, 3, .inl (u0)))] sz) [(h0, .inr (1, [.int k0, .ref q, .int 1]))]) (va_A [(h0, .inr (1, [.int k0, .ref a0, .int 0])), (h1, .inl (cI, 3, .inl (u0)))] sz)) 1 10 (va_A [(h0, .inr (1, [.int k0, .ref a0, .int 0])), (h1, .inl (cI, 3, .inl (u0)))] sz) := by
  refine Met.ofW (cc := cJx4a65c_add_72be8) (maxL := 4) (ret := none) (by decide) rfl ?_
  intro p e s m args below meth c s₁ B hml hv
  obtain ⟨rfl, hsz, hP, hK, hD0, hZ⟩ := hv
  have hx := B.exec
  have hb := B.bytes
  have hr := B.returns
  have hts := atoms_spec (ws := zs_c_Jx4a65c_add_72be8_I) B.pre
  have hown : s.vm.findClass RJx4a65c = some m.cls := findClass_of_methodNamed B.named
  have hlocks := B.notSynchronized
  have hiJx4a65c : ∀ w ∈ wsJx4a65c0, w ∈ zs_c_Jx4a65c_add_72be8_I := by decide +kernel
  subst hsz
  have hD := hD0.self (sz := s.heap.size)
  generalize hAe : va_A [(h0, .inr (1, [.int k0, .ref a0, .int 0])), (h1, .inl (cI, 3, .inl (u0)))] s.heap.size = A at hD hZ ⊢
  have hA : ∀ q : Nat, s.heap.size ≤ q → A q := fun q h => by rw [← hAe]; exact Or.inr h
  have hS : va_S A s.heap s.heap [] := va_S.rf
  have hl := lv_entry ([.ref h0, .ref h1, .ref a0, .int 0]) (n := 4) (Nat.le_of_ble_eq_true rfl)
  rw [lg_entry_eq]
  generalize (lg_sl ([.ref h0, .ref h1, .ref a0, .int 0]) ++ List.replicate (4 - (lg_sl ([.ref h0, .ref h1, .ref a0, .int 0])).length) Slot.unset).toArray = ls at hl ⊢
  have hl : lv_has ls 4 [(0, .ref h0), (1, .ref h1), (2, .ref a0), (3, .int 0)] := hl
  refine lv_iload_n hx hb dJx4a65c_add_72be8_0 rfl (lv_at hl 3 rfl) ?_
  refine lv_aload_n hx hb dJx4a65c_add_72be8_1 rfl (lv_at hl 2 rfl) ?_
  refine va_tlen (v := 0) hx hb hZ.ar hS (by decide) dJx4a65c_add_72be8_2 ?_
  refine lv_icmp_ne (tgt := 11) hx hb dJx4a65c_add_72be8_3 (by decide) (fun c_1 => ?_) (fun c_1 => ?_)
  · (first | exact absurd c_1 (by decide) | exact absurd (by decide) c_1)
  refine lv_aload_n hx hb dJx4a65c_add_72be8_6 rfl (lv_at hl 0 rfl) ?_
  have hPc := hP.sub (ws' := [(h0, .inr (1, [.int k0, .ref a0, .int 0]))]) [0] rfl
  have hDc := hD.sub (ws' := [(h0, .inr (1, [.int k0, .ref a0, .int 0]))]) [0] (by decide) rfl
  have hKc := hK.sub (tys' := []) [] rfl
  have hFc := va_free (wc := [(h0, .inr (1, [.int k0, .ref a0, .int 0]))]) hD hS hA [0] rfl
  have hZc := ((hZ.kept hS.2.1).narrow hFc)
  refine va_callr (va_runV (As := []) (rest := []) ⟨hx, hb, hml, hown, hts⟩ (c_Jx4a65c_grow_d5877 l hnt dC dI a0 h0 k0 s.heap.size ) (cwV 0 hts (goodIn_of _ (by decide +kernel)) rfl rfl rfl (by decide +kernel) ⟨Nat.le_of_ble_eq_true rfl, Nat.le_of_ble_eq_true rfl⟩) ⟨fun a U g mk q => by obtain ⟨q0, q1, qP, qK, qD, qZ⟩ := q; exact ⟨q0, q1, qP, va_K.moved (u := U) (U := U.calling g mk a) (Vm.Alike.refl U.vm) qK, qD, qZ.call⟩, va_recv hKc hPc (ci := 1) (q0 := 0) rfl rfl, fun U hU hW => ⟨rfl, by rw [hU], by rw [hU]; exact hPc, va_K.moved hW.alike hKc, hDc.weaken (fun _ _ _ _ => trivial), by rw [hU]; exact hZc.warm hW⟩⟩ rfl rfl hl.1 rfl (lv_room (Nat.le_of_ble_eq_true rfl)) dJx4a65c_add_72be8_7 ⟨Nat.le_of_ble_eq_true rfl, Nat.le_of_ble_eq_true rfl⟩) hS (fun q _ h => hFc q h) hFc (fun u r_2 t H1 locs ht hvm hw hB hz1 hk1 hS => ?_)
  obtain ⟨cO_3, hP1, hK1, hD1⟩ := hB
  rw [ht] at hP1
  have hK1 := va_K.moved hvm.symm hK1
  obtain ⟨hP, hD⟩ := va_join (wr := [(h1, .inl (cI, 3, .inl (u0)))]) (w1 := [(h0, .inr (1, [.int k0, .ref r_2, .int 0])), (r_2, .inl (cO_3, 10, .inr (.inr (.inr (.inr (fun _ => none))))))]) hP hD [0] [1] rfl rfl (by decide) (by decide) hk1 hFc hP1 hD1
  have hK := (hK.sub (tys' := [(cI, .int)]) [0] rfl).app hK1
  generalize H1 = H at hP hS ⊢
  have hP : va_P (dC, dI) vwCl [(h1, .inl (cI, 3, .inl (u0))), (h0, .inr (1, [.int k0, .ref r_2, .int 0])), (r_2, .inl (cO_3, 10, .inr (.inr (.inr (.inr (fun _ => none))))))] H := hP
  have hD : va_D A [(h1, .inl (cI, 3, .inl (u0))), (h0, .inr (1, [.int k0, .ref r_2, .int 0])), (r_2, .inl (cO_3, 10, .inr (.inr (.inr (.inr (fun _ => none))))))] := hD
  have hK : va_K (dC, dI) vwCl [(cI, .int), (cO_3, .object "java/lang/Object")] s := hK
  refine W.widen (k := 1) (n := 10) (Nat.le_of_ble_eq_true rfl) (Nat.le_of_ble_eq_true rfl) ?_
  refine lv_astore_n (lv' := [(2, .ref r_2), (0, .ref h0), (1, .ref h1), (3, .int 0)]) hx hb dJx4a65c_add_72be8_10 rfl hl (by decide) rfl (fun ls hl => ?_)
  refine lv_aload_n hx hb dJx4a65c_add_72be8_11 rfl (lv_at hl 0 rfl) ?_
  refine lv_iload_n hx hb dJx4a65c_add_72be8_12 rfl (lv_at hl 3 rfl) ?_
  refine lv_aload_n hx hb dJx4a65c_add_72be8_13 rfl (lv_at hl 2 rfl) ?_
  refine va_astqM hx hb hK hP hD hS 2 1 rfl rfl (zz_anyI hK hP 0 0 rfl rfl hZ.caI) (by unfold vp_in; decide) dJx4a65c_add_72be8_14 (fun H locs hP hD hS => ?_)
  have hP : va_P (dC, dI) vwCl [(h1, .inl (cI, 3, .inl (u0))), (h0, .inr (1, [.int k0, .ref r_2, .int 0])), (r_2, .inl (cO_3, 10, .inr (.inr (.inr (.inr (va_up (fun _ => none) ((0 : Int32).toNatClampNeg) (some h1)))))))] H := hP
  have hD : va_D A [(h1, .inl (cI, 3, .inl (u0))), (h0, .inr (1, [.int k0, .ref r_2, .int 0])), (r_2, .inl (cO_3, 10, .inr (.inr (.inr (.inr (va_up (fun _ => none) ((0 : Int32).toNatClampNeg) (some h1)))))))] := hD
  refine lv_aload_n hx hb dJx4a65c_add_72be8_15 rfl (lv_at hl 1 rfl) ?_
  refine lv_iload_n hx hb dJx4a65c_add_72be8_16 rfl (lv_at hl 3 rfl) ?_
  refine lv_iconst (v := 1) hx hb dJx4a65c_add_72be8_17 (by decide) ?_
  refine lv_iadd hx hb dJx4a65c_add_72be8_18 ?_
  refine lv_topi (fun x_4 ex_4 => ?_)
  obtain rfl : x_4 = 1 := ex_4.trans (by decide)
  refine va_put (D := (dC, dI)) (ci := 1) (v := .int 1) (ty := .int) (C := RJx4a65c) (T := TJx4a65c) (N := 3) hx hb hts hiJx4a65c tyJx4a65c tyJx4a65c_ok nmJx4a65c hown hK hP hD hS 1 rfl rfl 2 (by decide) (hts (.fieldLink RJx4a65c 48 "java/util/ArrayList" "size" "I") (by decide +kernel)) (fun _ h9 => h9) rfl (by decide +kernel) rfl rfl (Nat.le_of_ble_eq_true rfl) dJx4a65c_add_72be8_19 (fun H locs hP hD hS => ?_)
  have hP : va_P (dC, dI) vwCl [(h1, .inl (cI, 3, .inl (u0))), (h0, .inr (1, [.int k0, .ref r_2, .int 1])), (r_2, .inl (cO_3, 10, .inr (.inr (.inr (.inr (va_up (fun _ => none) ((0 : Int32).toNatClampNeg) (some h1)))))))] H := hP
  have hD : va_D A [(h1, .inl (cI, 3, .inl (u0))), (h0, .inr (1, [.int k0, .ref r_2, .int 1])), (r_2, .inl (cO_3, 10, .inr (.inr (.inr (.inr (va_up (fun _ => none) ((0 : Int32).toNatClampNeg) (some h1)))))))] := hD
  have hP9 := hP.sub (ws' := [(h0, .inr (1, [.int k0, .ref r_2, .int 1]))]) [1] rfl
  have hD9 := hD.sub (ws' := [(h0, .inr (1, [.int k0, .ref r_2, .int 1]))]) [1] (by decide) rfl
  have hK9 := hK.sub (tys' := []) [] rfl
  refine W.widen (k := 1) (n := 10) (Nat.le_of_ble_eq_true rfl) (Nat.le_of_ble_eq_true rfl) ?_
  exact W.vret hx hb hr (fun t ht hW => ⟨⟨(), rfl, trivial, ⟨r_2, by rw [ht]; exact hP9, va_K.moved hW.alike hK9, hD9⟩⟩, hS.F ht⟩) hS.2.2 dJx4a65c_add_72be8_22

def zs_c_Jx4a65c_add_9ea2d_I : List Cond := .code yJx4a65c_add_9ea2d cJx4a65c_add_9ea2d 2 (some .boolean) :: (([.sameField "java/util/ArrayList" "java/util/AbstractList" "modCount" "I", .fieldLink RJx4a65c 63 "java/util/ArrayList" "modCount" "I", .fieldLink RJx4a65c 9 "java/util/ArrayList" "elementData" "[Ljava/lang/Object;", .fieldLink RJx4a65c 48 "java/util/ArrayList" "size" "I", .code yJx4a65c_add_72be8 cJx4a65c_add_72be8 4 none, .code yJx4a65c_grow_d5877 cJx4a65c_grow_d5877 1 (some (.array (.object "java/lang/Object"))), .code yJx4a65c_grow_92f84 cJx4a65c_grow_92f84 4 (some (.array (.object "java/lang/Object"))), .fieldLink RJx4a65c 39 "java/util/ArrayList" "DEFAULTCAPACITY_EMPTY_ELEMENTDATA" "[Ljava/lang/Object;", .methodLink RJx4a65c 79 Lib.Math.max.name, .static Lib.Math.max.name, .initialized "java/lang/Math", .code Lib.Math.max.name Lib.Math.max.code 2 (some .int), .classLink RJx4a65c 7 "java/lang/Object", .methodLink RJx4a65c 69 yJx4a65c_grow_92f84, .instanceMethod yJx4a65c_grow_92f84, .initialized RJx4a65c, .selects RJx4a65c yJx4a65c_grow_92f84 yJx4a65c_grow_92f84, .methodLink RJx4a65c 129 yJx4a65c_grow_d5877, .instanceMethod yJx4a65c_grow_d5877, .selects RJx4a65c yJx4a65c_grow_d5877 yJx4a65c_grow_d5877, .methodLink RJx4a65c 131 yJx4a65c_add_72be8, .instanceMethod yJx4a65c_add_72be8, .selects RJx4a65c yJx4a65c_add_72be8 yJx4a65c_add_72be8] : List Cond) ++ wsJx4a65c0)
set_option maxHeartbeats 4000000 in
set_option maxRecDepth 100000 in
/-- add, the first -/
theorem c_Jx4a65c_add_9ea2d_I (l : Launch) (hnt : l.stackTraces = false) (dC : Nat → ClassId) (dI : Nat → Nat → Nat) (a0 : Nat) (h0 : Nat) (h1 : Nat) (u0 : Nat → Int32) (cI : ClassId) (sz : Nat)  : Met l yJx4a65c_add_9ea2d zs_c_Jx4a65c_add_9ea2d_I ({ frames := 4, cells := 1, slots := 10, locals := 80 }) (va_Pc [.ref h0, .ref h1] (fun U => U.heap.size = sz ∧ va_P (dC, dI) vwCl [(h0, .inr (1, [.int 0, .ref a0, .int 0])), (h1, .inl (cI, 3, .inl (u0)))] U.heap ∧ va_K (dC, dI) vwCl [(cI, .int)] U ∧ va_D (fun _ => True) [(h0, .inr (1, [.int 0, .ref a0, .int 0])), (h1, .inl (cI, 3, .inl (u0)))] ∧ zB a0 (va_A [(h0, .inr (1, [.int 0, .ref a0, .int 0])), (h1, .inl (cI, 3, .inl (u0)))] sz) U U.heap)) (va_Qi (fun (r : Int32) (_ : Unit) => r = 1) (fun _ t => ∃ (q : Nat), va_P (dC, dI) vwCl [(h0, .inr (1, [.int 1, .ref q, .int 1]))] t.heap ∧ va_K (dC, dI) vwCl [] t ∧ va_D (va_A [(h0, .inr (1, [.int 0, .ref a0, .int 0])), (h1, .inl (cI, 3, .inl (u0)))] sz) [(h0, .inr (1, [.int 1, .ref q, .int 1]))]) (va_A [(h0, .inr (1, [.int 0, .ref a0, .int 0])), (h1, .inl (cI, 3, .inl (u0)))] sz)) 1 10 (va_A [(h0, .inr (1, [.int 0, .ref a0, .int 0])), (h1, .inl (cI, 3, .inl (u0)))] sz) := by
  refine Met.ofW (cc := cJx4a65c_add_9ea2d) (maxL := 2) (ret := (some .boolean)) (by decide) rfl ?_
  intro p e s m args below meth c s₁ B hml hv
  obtain ⟨rfl, hsz, hP, hK, hD0, hZ⟩ := hv
  have hx := B.exec
  have hb := B.bytes
  have hr := B.returns
  have hts := atoms_spec (ws := zs_c_Jx4a65c_add_9ea2d_I) B.pre
  have hown : s.vm.findClass RJx4a65c = some m.cls := findClass_of_methodNamed B.named
  have hlocks := B.notSynchronized
  have hiJx4a65c : ∀ w ∈ wsJx4a65c0, w ∈ zs_c_Jx4a65c_add_9ea2d_I := by decide +kernel
  subst hsz
  have hD := hD0.self (sz := s.heap.size)
  generalize hAe : va_A [(h0, .inr (1, [.int 0, .ref a0, .int 0])), (h1, .inl (cI, 3, .inl (u0)))] s.heap.size = A at hD hZ ⊢
  have hA : ∀ q : Nat, s.heap.size ≤ q → A q := fun q h => by rw [← hAe]; exact Or.inr h
  have hS : va_S A s.heap s.heap [] := va_S.rf
  have hl := lv_entry ([.ref h0, .ref h1]) (n := 2) (Nat.le_of_ble_eq_true rfl)
  rw [lg_entry_eq]
  generalize (lg_sl ([.ref h0, .ref h1]) ++ List.replicate (2 - (lg_sl ([.ref h0, .ref h1])).length) Slot.unset).toArray = ls at hl ⊢
  have hl : lv_has ls 2 [(0, .ref h0), (1, .ref h1)] := hl
  refine lv_aload_n hx hb dJx4a65c_add_9ea2d_0 rfl (lv_at hl 0 rfl) ?_
  refine lv_dup hx hb dJx4a65c_add_9ea2d_1 rfl ?_
  refine va_get (D := (dC, dI)) (ci := 1) (v := .int 0) (C := RJx4a65c) (T := TJx4a65c) (N := 3) hx hb hts hiJx4a65c hown hK hP 0 rfl rfl 0 (by decide) (hts (.fieldLink RJx4a65c 63 "java/util/ArrayList" "modCount" "I") (by decide +kernel)) (u_same (hts (.sameField "java/util/ArrayList" "java/util/AbstractList" "modCount" "I") (by decide +kernel))) rfl dJx4a65c_add_9ea2d_2 ?_
  refine lv_iconst (v := 1) hx hb dJx4a65c_add_9ea2d_5 (by decide) ?_
  refine lv_iadd hx hb dJx4a65c_add_9ea2d_6 ?_
  refine lv_topi (fun x_1 ex_1 => ?_)
  obtain rfl : x_1 = 1 := ex_1.trans (by decide)
  refine va_put (D := (dC, dI)) (ci := 1) (v := .int 1) (ty := .int) (C := RJx4a65c) (T := TJx4a65c) (N := 3) hx hb hts hiJx4a65c tyJx4a65c tyJx4a65c_ok nmJx4a65c hown hK hP hD hS 0 rfl rfl 0 (by decide) (hts (.fieldLink RJx4a65c 63 "java/util/ArrayList" "modCount" "I") (by decide +kernel)) (u_same (hts (.sameField "java/util/ArrayList" "java/util/AbstractList" "modCount" "I") (by decide +kernel))) rfl (by decide +kernel) rfl rfl (Nat.le_of_ble_eq_true rfl) dJx4a65c_add_9ea2d_7 (fun H locs hP hD hS => ?_)
  have hP : va_P (dC, dI) vwCl [(h0, .inr (1, [.int 1, .ref a0, .int 0])), (h1, .inl (cI, 3, .inl (u0)))] H := hP
  have hD : va_D A [(h0, .inr (1, [.int 1, .ref a0, .int 0])), (h1, .inl (cI, 3, .inl (u0)))] := hD
  refine lv_aload_n hx hb dJx4a65c_add_9ea2d_10 rfl (lv_at hl 0 rfl) ?_
  refine lv_aload_n hx hb dJx4a65c_add_9ea2d_11 rfl (lv_at hl 1 rfl) ?_
  refine lv_aload_n hx hb dJx4a65c_add_9ea2d_12 rfl (lv_at hl 0 rfl) ?_
  refine va_get (D := (dC, dI)) (ci := 1) (v := .ref a0) (C := RJx4a65c) (T := TJx4a65c) (N := 3) hx hb hts hiJx4a65c hown hK hP 0 rfl rfl 1 (by decide) (hts (.fieldLink RJx4a65c 9 "java/util/ArrayList" "elementData" "[Ljava/lang/Object;") (by decide +kernel)) (fun _ h9 => h9) rfl dJx4a65c_add_9ea2d_13 ?_
  refine lv_aload_n hx hb dJx4a65c_add_9ea2d_16 rfl (lv_at hl 0 rfl) ?_
  refine va_get (D := (dC, dI)) (ci := 1) (v := .int 0) (C := RJx4a65c) (T := TJx4a65c) (N := 3) hx hb hts hiJx4a65c hown hK hP 0 rfl rfl 2 (by decide) (hts (.fieldLink RJx4a65c 48 "java/util/ArrayList" "size" "I") (by decide +kernel)) (fun _ h9 => h9) rfl dJx4a65c_add_9ea2d_17 ?_
  have hPc := hP.sub (ws' := [(h0, .inr (1, [.int 1, .ref a0, .int 0])), (h1, .inl (cI, 3, .inl (u0)))]) [0, 1] rfl
  have hDc := hD.sub (ws' := [(h0, .inr (1, [.int 1, .ref a0, .int 0])), (h1, .inl (cI, 3, .inl (u0)))]) [0, 1] (by decide) rfl
  have hKc := hK.sub (tys' := [(cI, .int)]) [0] rfl
  have hFc := va_free (wc := [(h0, .inr (1, [.int 1, .ref a0, .int 0])), (h1, .inl (cI, 3, .inl (u0)))]) hD hS hA [0, 1] rfl
  have hZc := ((hZ.kept hS.2.1).narrow hFc)
  refine va_callv (va_runV (As := [.ref h1, .ref a0, .int 0]) (rest := []) ⟨hx, hb, hml, hown, hts⟩ (c_Jx4a65c_add_72be8_I l hnt dC dI a0 h0 h1 1 u0 cI H.size ) (cwV 3 hts (goodIn_of _ (by decide +kernel)) rfl rfl rfl (by decide +kernel) ⟨Nat.le_of_ble_eq_true rfl, Nat.le_of_ble_eq_true rfl⟩) ⟨fun a U g mk q => by obtain ⟨q0, q1, qP, qK, qD, qZ⟩ := q; exact ⟨q0, q1, qP, va_K.moved (u := U) (U := U.calling g mk a) (Vm.Alike.refl U.vm) qK, qD, qZ.call⟩, va_recv hKc hPc (ci := 1) (q0 := 0) rfl rfl, fun U hU hW => ⟨rfl, by rw [hU], by rw [hU]; exact hPc, va_K.moved hW.alike hKc, hDc.weaken (fun _ _ _ _ => trivial), by rw [hU]; exact hZc.warm hW⟩⟩ rfl rfl hl.1 rfl (lv_room (Nat.le_of_ble_eq_true rfl)) dJx4a65c_add_9ea2d_20 ⟨Nat.le_of_ble_eq_true rfl, Nat.le_of_ble_eq_true rfl⟩) hS (fun q _ h => hFc q h) hFc (fun u t H1 locs ht hvm hw hB hz1 hk1 hS => ?_)
  obtain ⟨q_3, hP1, hK1, hD1⟩ := hB
  rw [ht] at hP1
  have hK1 := va_K.moved hvm.symm hK1
  obtain ⟨hP, hD⟩ := va_join (wr := []) (w1 := [(h0, .inr (1, [.int 1, .ref q_3, .int 1]))]) hP hD [0, 1] [] rfl rfl (by decide) (by decide) hk1 hFc hP1 hD1
  have hK := (hK.sub (tys' := [(cI, .int)]) [0] rfl).app hK1
  generalize H1 = H at hP hS ⊢
  have hP : va_P (dC, dI) vwCl [(h0, .inr (1, [.int 1, .ref q_3, .int 1]))] H := hP
  have hD : va_D A [(h0, .inr (1, [.int 1, .ref q_3, .int 1]))] := hD
  have hK : va_K (dC, dI) vwCl [(cI, .int)] s := hK
  refine W.widen (k := 1) (n := 10) (Nat.le_of_ble_eq_true rfl) (Nat.le_of_ble_eq_true rfl) ?_
  refine lv_iconst (v := 1) hx hb dJx4a65c_add_9ea2d_23 (by decide) ?_
  have hP9 := hP.sub (ws' := [(h0, .inr (1, [.int 1, .ref q_3, .int 1]))]) [0] rfl
  have hD9 := hD.sub (ws' := [(h0, .inr (1, [.int 1, .ref q_3, .int 1]))]) [0] (by decide) rfl
  have hK9 := hK.sub (tys' := []) [] rfl
  refine W.widen (k := 1) (n := 10) (Nat.le_of_ble_eq_true rfl) (Nat.le_of_ble_eq_true rfl) ?_
  exact W.zret (v := 1) hx hb hr (by decide) (fun t ht hW => ⟨⟨1, (), rfl, rfl, ⟨q_3, by rw [ht]; exact hP9, va_K.moved hW.alike hK9, hD9⟩⟩, hS.F ht⟩) hS.2.2 dJx4a65c_add_9ea2d_24

def zs_c_X8_init_2 : List Cond := .code yX8_init cX8_init 2 none :: (([.methodLink RX8 3 objectInit, .instanceMethod objectInit, .code objectInit ⟨#[0xb1]⟩ 1 none, .fieldLink RX8 9 "HaltingaleModel$Machine" "kind" "I", .fieldLink RX8 15 "HaltingaleModel$Machine" "a" "I", .fieldLink RX8 18 "HaltingaleModel$Machine" "b" "I", .fieldLink RX8 21 "HaltingaleModel$Machine" "states" "I", .classLink RX8 24 "[I", .fieldLink RX8 26 "HaltingaleModel$Machine" "cells" "[[I"] : List Cond) ++ wsX80)
set_option maxHeartbeats 4000000 in
set_option maxRecDepth 100000 in
/-- Machine(2) -/
theorem c_X8_init_2 (l : Launch) (hnt : l.stackTraces = false) (dC : Nat → ClassId) (dI : Nat → Nat → Nat) (a0 : Nat) (h0 : Nat) (sz : Nat)  : Met l yX8_init zs_c_X8_init_2 ({ frames := 1, cells := 1, slots := 4, locals := 12 }) (va_Pc [.ref h0, .int 2] (fun U => U.heap.size = sz ∧ va_P (dC, dI) vwCl [(h0, .inr (10, [.int 0, .null, .int 0, .int 0, .int 0]))] U.heap ∧ va_K (dC, dI) vwCl [] U ∧ va_D (fun _ => True) [(h0, .inr (10, [.int 0, .null, .int 0, .int 0, .int 0]))] ∧ zB a0 (va_A [(h0, .inr (10, [.int 0, .null, .int 0, .int 0, .int 0]))] sz) U U.heap)) (va_Qv (fun _ : Unit => True) (fun _ t => ∃ (u1 : Nat), va_P (dC, dI) vwCl [(h0, .inr (10, [.int 2, .ref u1, .int (-1), .int (-1), .int (-1)]))] t.heap ∧ va_K (dC, dI) vwCl [] t ∧ va_D (va_A [(h0, .inr (10, [.int 0, .null, .int 0, .int 0, .int 0]))] sz) [(h0, .inr (10, [.int 2, .ref u1, .int (-1), .int (-1), .int (-1)]))]) (va_A [(h0, .inr (10, [.int 0, .null, .int 0, .int 0, .int 0]))] sz)) 1 4 (va_A [(h0, .inr (10, [.int 0, .null, .int 0, .int 0, .int 0]))] sz) := by
  refine Met.ofW (cc := cX8_init) (maxL := 2) (ret := none) (by decide) rfl ?_
  intro p e s m args below meth c s₁ B hml hv
  obtain ⟨rfl, hsz, hP, hK, hD0, hZ⟩ := hv
  have hx := B.exec
  have hb := B.bytes
  have hr := B.returns
  have hts := atoms_spec (ws := zs_c_X8_init_2) B.pre
  have hown : s.vm.findClass RX8 = some m.cls := findClass_of_methodNamed B.named
  have hlocks := B.notSynchronized
  have hin : meth.name = "<init>" := (name_of_methodNamed B.named B.method).1
  have hiX8 : ∀ w ∈ wsX80, w ∈ zs_c_X8_init_2 := by decide +kernel
  subst hsz
  have hD := hD0.self (sz := s.heap.size)
  generalize hAe : va_A [(h0, .inr (10, [.int 0, .null, .int 0, .int 0, .int 0]))] s.heap.size = A at hD hZ ⊢
  have hA : ∀ q : Nat, s.heap.size ≤ q → A q := fun q h => by rw [← hAe]; exact Or.inr h
  have hS : va_S A s.heap s.heap [] := va_S.rf
  have hl := lv_entry ([.ref h0, .int 2]) (n := 2) (Nat.le_of_ble_eq_true rfl)
  rw [lg_entry_eq]
  generalize (lg_sl ([.ref h0, .int 2]) ++ List.replicate (2 - (lg_sl ([.ref h0, .int 2])).length) Slot.unset).toArray = ls at hl ⊢
  have hl : lv_has ls 2 [(0, .ref h0), (1, .int 2)] := hl
  refine lv_aload_n hx hb dX8_init_0 rfl (lv_at hl 0 rfl) ?_
  refine W.objInit hx hb hown (hts (.methodLink RX8 3 objectInit) (by decide +kernel)) (hts (.instanceMethod objectInit) (by decide +kernel)) (hts (.code objectInit ⟨#[0xb1]⟩ 1 none) (by decide +kernel)) rfl (by rw [hml]; exact hl.1) rfl dX8_init_1 (Nat.le_of_ble_eq_true rfl) (Nat.le_of_ble_eq_true rfl) ?_
  refine W.eq (g2 := F0 m 4 ls []) rfl ?_
  refine lv_aload_n hx hb dX8_init_4 rfl (lv_at hl 0 rfl) ?_
  refine lv_iconst (v := (-1)) hx hb dX8_init_5 (by decide) ?_
  refine va_put (D := (dC, dI)) (ci := 10) (v := .int (-1)) (ty := .int) (C := RX8) (T := TX8) (N := 5) hx hb hts hiX8 tyX8 tyX8_ok nmX8 hown hK hP hD hS 0 rfl rfl 2 (by decide) (hts (.fieldLink RX8 9 "HaltingaleModel$Machine" "kind" "I") (by decide +kernel)) (fun _ h9 => h9) rfl (by decide +kernel) rfl rfl (Nat.le_of_ble_eq_true rfl) dX8_init_6 (fun H locs hP hD hS => ?_)
  have hP : va_P (dC, dI) vwCl [(h0, .inr (10, [.int 0, .null, .int (-1), .int 0, .int 0]))] H := hP
  have hD : va_D A [(h0, .inr (10, [.int 0, .null, .int (-1), .int 0, .int 0]))] := hD
  refine lv_aload_n hx hb dX8_init_9 rfl (lv_at hl 0 rfl) ?_
  refine lv_iconst (v := (-1)) hx hb dX8_init_10 (by decide) ?_
  refine va_put (D := (dC, dI)) (ci := 10) (v := .int (-1)) (ty := .int) (C := RX8) (T := TX8) (N := 5) hx hb hts hiX8 tyX8 tyX8_ok nmX8 hown hK hP hD hS 0 rfl rfl 3 (by decide) (hts (.fieldLink RX8 15 "HaltingaleModel$Machine" "a" "I") (by decide +kernel)) (fun _ h9 => h9) rfl (by decide +kernel) rfl rfl (Nat.le_of_ble_eq_true rfl) dX8_init_11 (fun H locs hP hD hS => ?_)
  have hP : va_P (dC, dI) vwCl [(h0, .inr (10, [.int 0, .null, .int (-1), .int (-1), .int 0]))] H := hP
  have hD : va_D A [(h0, .inr (10, [.int 0, .null, .int (-1), .int (-1), .int 0]))] := hD
  refine lv_aload_n hx hb dX8_init_14 rfl (lv_at hl 0 rfl) ?_
  refine lv_iconst (v := (-1)) hx hb dX8_init_15 (by decide) ?_
  refine va_put (D := (dC, dI)) (ci := 10) (v := .int (-1)) (ty := .int) (C := RX8) (T := TX8) (N := 5) hx hb hts hiX8 tyX8 tyX8_ok nmX8 hown hK hP hD hS 0 rfl rfl 4 (by decide) (hts (.fieldLink RX8 18 "HaltingaleModel$Machine" "b" "I") (by decide +kernel)) (fun _ h9 => h9) rfl (by decide +kernel) rfl rfl (Nat.le_of_ble_eq_true rfl) dX8_init_16 (fun H locs hP hD hS => ?_)
  have hP : va_P (dC, dI) vwCl [(h0, .inr (10, [.int 0, .null, .int (-1), .int (-1), .int (-1)]))] H := hP
  have hD : va_D A [(h0, .inr (10, [.int 0, .null, .int (-1), .int (-1), .int (-1)]))] := hD
  refine lv_aload_n hx hb dX8_init_19 rfl (lv_at hl 0 rfl) ?_
  refine lv_iload_n hx hb dX8_init_20 rfl (lv_at hl 1 rfl) ?_
  refine va_putF (D := (dC, dI)) (ci := 10) (v := .int 2) (ty := .int) (C := RX8) (T := TX8) (N := 5) hx hb hts hiX8 tyX8 tyX8_ok nmX8 hown hK hP hD hS 0 rfl rfl 0 (by decide) (hts (.fieldLink RX8 21 "HaltingaleModel$Machine" "states" "I") (by decide +kernel)) (fun _ h9 => h9) rfl hin rfl (by decide +kernel) rfl rfl (Nat.le_of_ble_eq_true rfl) dX8_init_21 (fun H locs hP hD hS => ?_)
  have hP : va_P (dC, dI) vwCl [(h0, .inr (10, [.int 2, .null, .int (-1), .int (-1), .int (-1)]))] H := hP
  have hD : va_D A [(h0, .inr (10, [.int 2, .null, .int (-1), .int (-1), .int (-1)]))] := hD
  refine lv_aload_n hx hb dX8_init_24 rfl (lv_at hl 0 rfl) ?_
  refine lv_iconst (v := 2) hx hb dX8_init_25 (by decide) ?_
  refine lv_iload_n hx hb dX8_init_26 rfl (lv_at hl 1 rfl) ?_
  refine lv_imul hx hb dX8_init_27 ?_
  refine lv_topi (fun x_1 ex_1 => ?_)
  obtain rfl : x_1 = 4 := ex_1.trans (by decide)
  refine zz_newA (N' := 4) hx hb hown (hts (.classLink RX8 24 "[I") (by decide +kernel)) hZ.aoI hP hD hS (by decide) (by decide) (Nat.le_of_ble_eq_true rfl) (Nat.le_of_ble_eq_true rfl) (Nat.le_of_ble_eq_true rfl) dX8_init_28 (fun q_2 H hP hD hS => ?_)
  refine W.widen (k := 1) (n := 4) (Nat.le_of_ble_eq_true rfl) (Nat.le_of_ble_eq_true rfl) ?_
  refine va_putF (D := (dC, dI)) (ci := 10) (v := .ref q_2) (ty := .array (.array .int)) (C := RX8) (T := TX8) (N := 5) hx hb hts hiX8 tyX8 tyX8_ok nmX8 hown hK hP hD hS 0 rfl rfl 1 (by decide) (hts (.fieldLink RX8 26 "HaltingaleModel$Machine" "cells" "[[I") (by decide +kernel)) (fun _ h9 => h9) rfl hin rfl (by decide +kernel) rfl rfl (Nat.le_of_ble_eq_true rfl) dX8_init_31 (fun H locs hP hD hS => ?_)
  have hP : va_P (dC, dI) vwCl [(h0, .inr (10, [.int 2, .ref q_2, .int (-1), .int (-1), .int (-1)]))] H := hP
  have hD : va_D A [(h0, .inr (10, [.int 2, .ref q_2, .int (-1), .int (-1), .int (-1)]))] := hD
  have hP9 := hP.sub (ws' := [(h0, .inr (10, [.int 2, .ref q_2, .int (-1), .int (-1), .int (-1)]))]) [0] rfl
  have hD9 := hD.sub (ws' := [(h0, .inr (10, [.int 2, .ref q_2, .int (-1), .int (-1), .int (-1)]))]) [0] (by decide) rfl
  have hK9 := hK.sub (tys' := []) [] rfl
  refine W.widen (k := 1) (n := 4) (Nat.le_of_ble_eq_true rfl) (Nat.le_of_ble_eq_true rfl) ?_
  exact W.vret hx hb hr (fun t ht hW => ⟨⟨(), rfl, trivial, ⟨q_2, by rw [ht]; exact hP9, va_K.moved hW.alike hK9, hD9⟩⟩, hS.F ht⟩) hS.2.2 dX8_init_34

def zs_c_X10_machine_2 : List Cond := .code yX10_machine cX10_machine 2 (some .int) :: (([.fieldLink RX10 19 "HaltingaleModel" "thrown" "I", .code yX10_is cX10_is 3 (some .boolean), .methodLink RX10 27 yX10_is, .static yX10_is, .initialized RX10, .fieldLink RX10 10 "HaltingaleModel" "machines" "Ljava/util/ArrayList;", .code yJx4a65c_size_8abf5 cJx4a65c_size_8abf5 1 (some .int), .fieldLink RJx4a65c 48 "java/util/ArrayList" "size" "I", .methodLink RX10 23 yJx4a65c_size_8abf5, .instanceMethod yJx4a65c_size_8abf5, .initialized RJx4a65c, .selects RJx4a65c yJx4a65c_size_8abf5 yJx4a65c_size_8abf5, .classLink RX10 35 RX8, .instantiable RX8 5, .initialized RX8, .code yX8_init cX8_init 2 none, .methodLink RX8 3 objectInit, .instanceMethod objectInit, .code objectInit ⟨#[0xb1]⟩ 1 none, .fieldLink RX8 9 "HaltingaleModel$Machine" "kind" "I", .fieldLink RX8 15 "HaltingaleModel$Machine" "a" "I", .fieldLink RX8 18 "HaltingaleModel$Machine" "b" "I", .fieldLink RX8 21 "HaltingaleModel$Machine" "states" "I", .classLink RX8 24 "[I", .fieldLink RX8 26 "HaltingaleModel$Machine" "cells" "[[I", .methodLink RX10 37 yX8_init, .instanceMethod yX8_init, .code yJx4a65c_add_9ea2d cJx4a65c_add_9ea2d 2 (some .boolean), .sameField "java/util/ArrayList" "java/util/AbstractList" "modCount" "I", .fieldLink RJx4a65c 63 "java/util/ArrayList" "modCount" "I", .fieldLink RJx4a65c 9 "java/util/ArrayList" "elementData" "[Ljava/lang/Object;", .code yJx4a65c_add_72be8 cJx4a65c_add_72be8 4 none, .code yJx4a65c_grow_d5877 cJx4a65c_grow_d5877 1 (some (.array (.object "java/lang/Object"))), .code yJx4a65c_grow_92f84 cJx4a65c_grow_92f84 4 (some (.array (.object "java/lang/Object"))), .fieldLink RJx4a65c 39 "java/util/ArrayList" "DEFAULTCAPACITY_EMPTY_ELEMENTDATA" "[Ljava/lang/Object;", .methodLink RJx4a65c 79 Lib.Math.max.name, .static Lib.Math.max.name, .initialized "java/lang/Math", .code Lib.Math.max.name Lib.Math.max.code 2 (some .int), .classLink RJx4a65c 7 "java/lang/Object", .methodLink RJx4a65c 69 yJx4a65c_grow_92f84, .instanceMethod yJx4a65c_grow_92f84, .selects RJx4a65c yJx4a65c_grow_92f84 yJx4a65c_grow_92f84, .methodLink RJx4a65c 129 yJx4a65c_grow_d5877, .instanceMethod yJx4a65c_grow_d5877, .selects RJx4a65c yJx4a65c_grow_d5877 yJx4a65c_grow_d5877, .methodLink RJx4a65c 131 yJx4a65c_add_72be8, .instanceMethod yJx4a65c_add_72be8, .selects RJx4a65c yJx4a65c_add_72be8 yJx4a65c_add_72be8, .methodLink RX10 40 yJx4a65c_add_9ea2d, .instanceMethod yJx4a65c_add_9ea2d, .selects RJx4a65c yJx4a65c_add_9ea2d yJx4a65c_add_9ea2d] : List Cond) ++ wsX100 ++ wsJx4a65c0 ++ wsX80)
set_option maxHeartbeats 4000000 in
set_option maxRecDepth 100000 in
/-- machine(2), the first -/
theorem c_X10_machine_2 (l : Launch) (hnt : l.stackTraces = false) (dC : Nat → ClassId) (dI : Nat → Nat → Nat) (a0 : Nat) (m0 : Nat) (l1 : Nat) (l2 : Nat) (sz : Nat)  : Met l yX10_machine zs_c_X10_machine_2 ({ frames := 5, cells := 3, slots := 19, locals := 101 }) (va_Pc [.ref m0, .int 2] (fun U => U.heap.size = sz ∧ va_P (dC, dI) vwCl [(m0, .inr (12, [.int 0, .ref l1, .ref l2, .int 0, .int 0, .int 0, .long 0])), (l1, .inr (1, [.int 0, .ref a0, .int 0]))] U.heap ∧ va_K (dC, dI) vwCl [] U ∧ va_D (fun _ => True) [(m0, .inr (12, [.int 0, .ref l1, .ref l2, .int 0, .int 0, .int 0, .long 0])), (l1, .inr (1, [.int 0, .ref a0, .int 0]))] ∧ zB a0 (va_A [(m0, .inr (12, [.int 0, .ref l1, .ref l2, .int 0, .int 0, .int 0, .long 0])), (l1, .inr (1, [.int 0, .ref a0, .int 0]))] sz) U U.heap)) (va_Qi (fun (r : Int32) (_ : Unit) => r = 0) (fun _ t => va_P (dC, dI) vwCl [(m0, .inr (12, [.int 0, .ref l1, .ref l2, .int 0, .int 0, .int 0, .long 0]))] t.heap ∧ va_K (dC, dI) vwCl [] t ∧ va_D (va_A [(m0, .inr (12, [.int 0, .ref l1, .ref l2, .int 0, .int 0, .int 0, .long 0])), (l1, .inr (1, [.int 0, .ref a0, .int 0]))] sz) [(m0, .inr (12, [.int 0, .ref l1, .ref l2, .int 0, .int 0, .int 0, .long 0]))]) (va_A [(m0, .inr (12, [.int 0, .ref l1, .ref l2, .int 0, .int 0, .int 0, .long 0])), (l1, .inr (1, [.int 0, .ref a0, .int 0]))] sz)) 3 19 (va_A [(m0, .inr (12, [.int 0, .ref l1, .ref l2, .int 0, .int 0, .int 0, .long 0])), (l1, .inr (1, [.int 0, .ref a0, .int 0]))] sz) := by
  refine Met.ofW (cc := cX10_machine) (maxL := 2) (ret := (some .int)) (by decide) rfl ?_
  intro p e s m args below meth c s₁ B hml hv
  obtain ⟨rfl, hsz, hP, hK, hD0, hZ⟩ := hv
  have hx := B.exec
  have hb := B.bytes
  have hr := B.returns
  have hts := atoms_spec (ws := zs_c_X10_machine_2) B.pre
  have hown : s.vm.findClass RX10 = some m.cls := findClass_of_methodNamed B.named
  have hlocks := B.notSynchronized
  have hiX10 : ∀ w ∈ wsX100, w ∈ zs_c_X10_machine_2 := by decide +kernel
  have hiX8 : ∀ w ∈ wsX80, w ∈ zs_c_X10_machine_2 := by decide +kernel
  subst hsz
  have hD := hD0.self (sz := s.heap.size)
  generalize hAe : va_A [(m0, .inr (12, [.int 0, .ref l1, .ref l2, .int 0, .int 0, .int 0, .long 0])), (l1, .inr (1, [.int 0, .ref a0, .int 0]))] s.heap.size = A at hD hZ ⊢
  have hA : ∀ q : Nat, s.heap.size ≤ q → A q := fun q h => by rw [← hAe]; exact Or.inr h
  have hS : va_S A s.heap s.heap [] := va_S.rf
  have hl := lv_entry ([.ref m0, .int 2]) (n := 2) (Nat.le_of_ble_eq_true rfl)
  rw [lg_entry_eq]
  generalize (lg_sl ([.ref m0, .int 2]) ++ List.replicate (2 - (lg_sl ([.ref m0, .int 2])).length) Slot.unset).toArray = ls at hl ⊢
  have hl : lv_has ls 2 [(0, .ref m0), (1, .int 2)] := hl
  refine lv_aload_n hx hb dX10_machine_0 rfl (lv_at hl 0 rfl) ?_
  refine lv_iconst (v := 0) hx hb dX10_machine_1 (by decide) ?_
  refine va_put (D := (dC, dI)) (ci := 12) (v := .int 0) (ty := .int) (C := RX10) (T := TX10) (N := 7) hx hb hts hiX10 tyX10 tyX10_ok nmX10 hown hK hP hD hS 0 rfl rfl 0 (by decide) (hts (.fieldLink RX10 19 "HaltingaleModel" "thrown" "I") (by decide +kernel)) (fun _ h9 => h9) rfl (by decide +kernel) rfl rfl (Nat.le_of_ble_eq_true rfl) dX10_machine_2 (fun H locs hP hD hS => ?_)
  have hP : va_P (dC, dI) vwCl [(m0, .inr (12, [.int 0, .ref l1, .ref l2, .int 0, .int 0, .int 0, .long 0])), (l1, .inr (1, [.int 0, .ref a0, .int 0]))] H := hP
  have hD : va_D A [(m0, .inr (12, [.int 0, .ref l1, .ref l2, .int 0, .int 0, .int 0, .long 0])), (l1, .inr (1, [.int 0, .ref a0, .int 0]))] := hD
  refine lv_iload_n hx hb dX10_machine_5 rfl (lv_at hl 1 rfl) ?_
  refine lv_iconst (v := 2) hx hb dX10_machine_6 (by decide) ?_
  refine lv_iconst (v := 4) hx hb dX10_machine_7 (by decide) ?_
  have hPc := hP.sub (ws' := []) [] rfl
  have hDc := hD.sub (ws' := []) [] (by decide) rfl
  have hKc := hK.sub (tys' := []) [] rfl
  have hFc := va_free (wc := []) hD hS hA [] rfl
  have hZc := ((hZ.kept hS.2.1).narrow hFc)
  refine va_calli (va_runS (As := [.int 2, .int 2, .int 4]) (rest := []) ⟨hx, hb, hml, hown, hts⟩ (c_X10_is l hnt dC dI a0 2 2 4 H.size ) (va_cwS 3 hts (goodIn_of _ (by decide +kernel)) rfl rfl rfl (by decide +kernel) ⟨Nat.le_of_ble_eq_true rfl, Nat.le_of_ble_eq_true rfl⟩) ⟨fun a U g mk q => by obtain ⟨q0, q1, qP, qK, qD, qZ⟩ := q; exact ⟨q0, q1, qP, va_K.moved (u := U) (U := U.calling g mk a) (Vm.Alike.refl U.vm) qK, qD, qZ.call⟩, fun U hU hW => ⟨rfl, by rw [hU], by rw [hU]; exact hPc, va_K.moved hW.alike hKc, hDc.weaken (fun _ _ _ _ => trivial), by rw [hU]; exact hZc.warm hW⟩⟩ rfl rfl hl.1 rfl (lv_room (Nat.le_of_ble_eq_true rfl)) dX10_machine_8 ⟨Nat.le_of_ble_eq_true rfl, Nat.le_of_ble_eq_true rfl⟩) hS (fun q _ h => hFc q h) hFc (fun r_1 u t H1 locs ht hvm hw hB hz1 hk1 hS => ?_)
  obtain ⟨hP1, hK1, hD1⟩ := hB
  rw [ht] at hP1
  have hK1 := va_K.moved hvm.symm hK1
  obtain ⟨hP, hD⟩ := va_join (wr := [(m0, .inr (12, [.int 0, .ref l1, .ref l2, .int 0, .int 0, .int 0, .long 0])), (l1, .inr (1, [.int 0, .ref a0, .int 0]))]) (w1 := []) hP hD [] [0, 1] rfl rfl (by decide) (by decide) hk1 hFc hP1 hD1
  have hK := (hK.sub (tys' := []) [] rfl).app hK1
  generalize H1 = H at hP hS ⊢
  have hP : va_P (dC, dI) vwCl [(m0, .inr (12, [.int 0, .ref l1, .ref l2, .int 0, .int 0, .int 0, .long 0])), (l1, .inr (1, [.int 0, .ref a0, .int 0]))] H := hP
  have hD : va_D A [(m0, .inr (12, [.int 0, .ref l1, .ref l2, .int 0, .int 0, .int 0, .long 0])), (l1, .inr (1, [.int 0, .ref a0, .int 0]))] := hD
  have hK : va_K (dC, dI) vwCl [] s := hK
  refine W.widen (k := 0) (n := 0) (Nat.le_of_ble_eq_true rfl) (Nat.le_of_ble_eq_true rfl) ?_
  obtain rfl : r_1 = 1 := hw.trans (by decide)
  refine lv_if_ne (tgt := 20) hx hb dX10_machine_11 (by decide) (fun c_2 => ?_) (fun c_2 => ?_)
  rotate_left
  · (first | exact absurd c_2 (by decide) | exact absurd (by decide) c_2)
  refine lv_aload_n hx hb dX10_machine_20 rfl (lv_at hl 0 rfl) ?_
  refine va_get (D := (dC, dI)) (ci := 12) (v := .ref l1) (C := RX10) (T := TX10) (N := 7) hx hb hts hiX10 hown hK hP 0 rfl rfl 1 (by decide) (hts (.fieldLink RX10 10 "HaltingaleModel" "machines" "Ljava/util/ArrayList;") (by decide +kernel)) (fun _ h9 => h9) rfl dX10_machine_21 ?_
  have hPc := hP.sub (ws' := [(l1, .inr (1, [.int 0, .ref a0, .int 0]))]) [1] rfl
  have hDc := hD.sub (ws' := [(l1, .inr (1, [.int 0, .ref a0, .int 0]))]) [1] (by decide) rfl
  have hKc := hK.sub (tys' := []) [] rfl
  have hFc := va_free (wc := [(l1, .inr (1, [.int 0, .ref a0, .int 0]))]) hD hS hA [1] rfl
  have hZc := ((hZ.kept hS.2.1).narrow hFc)
  refine va_calli (va_runV (As := []) (rest := []) ⟨hx, hb, hml, hown, hts⟩ (c_Jx4a65c_size_8abf5 l hnt dC dI a0 l1 0 a0 0 H.size ) (cwV 0 hts (goodIn_of _ (by decide +kernel)) rfl rfl rfl (by decide +kernel) ⟨Nat.le_of_ble_eq_true rfl, Nat.le_of_ble_eq_true rfl⟩) ⟨fun a U g mk q => by obtain ⟨q0, q1, qP, qK, qD, qZ⟩ := q; exact ⟨q0, q1, qP, va_K.moved (u := U) (U := U.calling g mk a) (Vm.Alike.refl U.vm) qK, qD, qZ.call⟩, va_recv hKc hPc (ci := 1) (q0 := 0) rfl rfl, fun U hU hW => ⟨rfl, by rw [hU], by rw [hU]; exact hPc, va_K.moved hW.alike hKc, hDc.weaken (fun _ _ _ _ => trivial), by rw [hU]; exact hZc.warm hW⟩⟩ rfl rfl hl.1 rfl (lv_room (Nat.le_of_ble_eq_true rfl)) dX10_machine_24 ⟨Nat.le_of_ble_eq_true rfl, Nat.le_of_ble_eq_true rfl⟩) hS (fun q _ h => hFc q h) hFc (fun r_3 u t H1 locs ht hvm hw hB hz1 hk1 hS => ?_)
  obtain ⟨hP1, hK1, hD1⟩ := hB
  rw [ht] at hP1
  have hK1 := va_K.moved hvm.symm hK1
  obtain ⟨hP, hD⟩ := va_join (wr := [(m0, .inr (12, [.int 0, .ref l1, .ref l2, .int 0, .int 0, .int 0, .long 0]))]) (w1 := [(l1, .inr (1, [.int 0, .ref a0, .int 0]))]) hP hD [1] [0] rfl rfl (by decide) (by decide) hk1 hFc hP1 hD1
  have hK := (hK.sub (tys' := []) [] rfl).app hK1
  generalize H1 = H at hP hS ⊢
  have hP : va_P (dC, dI) vwCl [(m0, .inr (12, [.int 0, .ref l1, .ref l2, .int 0, .int 0, .int 0, .long 0])), (l1, .inr (1, [.int 0, .ref a0, .int 0]))] H := hP
  have hD : va_D A [(m0, .inr (12, [.int 0, .ref l1, .ref l2, .int 0, .int 0, .int 0, .long 0])), (l1, .inr (1, [.int 0, .ref a0, .int 0]))] := hD
  have hK : va_K (dC, dI) vwCl [] s := hK
  refine W.widen (k := 0) (n := 0) (Nat.le_of_ble_eq_true rfl) (Nat.le_of_ble_eq_true rfl) ?_
  obtain rfl : r_3 = 0 := hw
  refine lv_bipush (v := 12) hx hb dX10_machine_27 (by decide) ?_
  refine lv_icmp_ne (tgt := 38) hx hb dX10_machine_29 (by decide) (fun c_4 => ?_) (fun c_4 => ?_)
  rotate_left
  · (first | exact absurd c_4 (by decide) | exact absurd (by decide) c_4)
  refine lv_aload_n hx hb dX10_machine_38 rfl (lv_at hl 0 rfl) ?_
  refine va_get (D := (dC, dI)) (ci := 12) (v := .ref l1) (C := RX10) (T := TX10) (N := 7) hx hb hts hiX10 hown hK hP 0 rfl rfl 1 (by decide) (hts (.fieldLink RX10 10 "HaltingaleModel" "machines" "Ljava/util/ArrayList;") (by decide +kernel)) (fun _ h9 => h9) rfl dX10_machine_39 ?_
  refine va_new (ci := 10) (fs := [.int 0, .null, .int 0, .int 0, .int 0]) (C := RX8) (T := TX8) (N := 5) hx hb hts hiX8 tyX8 tyX8_ok hown (hts (.classLink RX10 35 RX8) (by decide +kernel)) (hts (.instantiable RX8 5) (by decide +kernel)) (hts (.initialized RX8) (by decide +kernel)) hK hP hD hS hA rfl (fun j hj => by rcases (show j = 0 ∨ j = 1 ∨ j = 2 ∨ j = 3 ∨ j = 4 by omega) with rfl | rfl | rfl | rfl | rfl <;> rfl) (Nat.le_of_ble_eq_true rfl) (Nat.le_of_ble_eq_true rfl) dX10_machine_42 (fun q_5 H hP hD hS => ?_)
  have hP : va_P (dC, dI) vwCl [(m0, .inr (12, [.int 0, .ref l1, .ref l2, .int 0, .int 0, .int 0, .long 0])), (l1, .inr (1, [.int 0, .ref a0, .int 0])), (q_5, .inr (10, [.int 0, .null, .int 0, .int 0, .int 0]))] H := hP
  have hD : va_D A [(m0, .inr (12, [.int 0, .ref l1, .ref l2, .int 0, .int 0, .int 0, .long 0])), (l1, .inr (1, [.int 0, .ref a0, .int 0])), (q_5, .inr (10, [.int 0, .null, .int 0, .int 0, .int 0]))] := hD
  refine W.widen (k := 1) (n := 5) (Nat.le_of_ble_eq_true rfl) (Nat.le_of_ble_eq_true rfl) ?_
  refine lv_dup hx hb dX10_machine_45 rfl ?_
  refine lv_iload_n hx hb dX10_machine_46 rfl (lv_at hl 1 rfl) ?_
  have hPc := hP.sub (ws' := [(q_5, .inr (10, [.int 0, .null, .int 0, .int 0, .int 0]))]) [2] rfl
  have hDc := hD.sub (ws' := [(q_5, .inr (10, [.int 0, .null, .int 0, .int 0, .int 0]))]) [2] (by decide) rfl
  have hKc := hK.sub (tys' := []) [] rfl
  have hFc := va_free (wc := [(q_5, .inr (10, [.int 0, .null, .int 0, .int 0, .int 0]))]) hD hS hA [2] rfl
  have hZc := ((hZ.kept hS.2.1).narrow hFc)
  refine va_callv (va_runI (As := [.int 2]) (rest := [.ref q_5, .ref l1]) ⟨hx, hb, hml, hown, hts⟩ (c_X8_init_2 l hnt dC dI a0 q_5 H.size ) (cwI 1 hts (goodIn_of _ (by decide +kernel)) rfl rfl rfl (hts (.initialized RX8) (by decide +kernel)) (hts (.methodLink RX10 37 yX8_init) (by decide +kernel)) (hts (.instanceMethod yX8_init) (by decide +kernel)) rfl (by decide +kernel) ⟨Nat.le_of_ble_eq_true rfl, Nat.le_of_ble_eq_true rfl⟩) ⟨fun a U g mk q => by obtain ⟨q0, q1, qP, qK, qD, qZ⟩ := q; exact ⟨q0, q1, qP, va_K.moved (u := U) (U := U.calling g mk a) (Vm.Alike.refl U.vm) qK, qD, qZ.call⟩, fun U hU hW => ⟨rfl, by rw [hU], by rw [hU]; exact hPc, va_K.moved hW.alike hKc, hDc.weaken (fun _ _ _ _ => trivial), by rw [hU]; exact hZc.warm hW⟩⟩ rfl rfl hl.1 rfl (lv_room (Nat.le_of_ble_eq_true rfl)) dX10_machine_47 ⟨Nat.le_of_ble_eq_true rfl, Nat.le_of_ble_eq_true rfl⟩) hS (fun q _ h => hFc q h) hFc (fun u t H1 locs ht hvm hw hB hz1 hk1 hS => ?_)
  obtain ⟨u1_7, hP1, hK1, hD1⟩ := hB
  rw [ht] at hP1
  have hK1 := va_K.moved hvm.symm hK1
  obtain ⟨hP, hD⟩ := va_join (wr := [(m0, .inr (12, [.int 0, .ref l1, .ref l2, .int 0, .int 0, .int 0, .long 0])), (l1, .inr (1, [.int 0, .ref a0, .int 0]))]) (w1 := [(q_5, .inr (10, [.int 2, .ref u1_7, .int (-1), .int (-1), .int (-1)]))]) hP hD [2] [0, 1] rfl rfl (by decide) (by decide) hk1 hFc hP1 hD1
  have hK := (hK.sub (tys' := []) [] rfl).app hK1
  generalize H1 = H at hP hS ⊢
  have hP : va_P (dC, dI) vwCl [(m0, .inr (12, [.int 0, .ref l1, .ref l2, .int 0, .int 0, .int 0, .long 0])), (l1, .inr (1, [.int 0, .ref a0, .int 0])), (q_5, .inr (10, [.int 2, .ref u1_7, .int (-1), .int (-1), .int (-1)]))] H := hP
  have hD : va_D A [(m0, .inr (12, [.int 0, .ref l1, .ref l2, .int 0, .int 0, .int 0, .long 0])), (l1, .inr (1, [.int 0, .ref a0, .int 0])), (q_5, .inr (10, [.int 2, .ref u1_7, .int (-1), .int (-1), .int (-1)]))] := hD
  have hK : va_K (dC, dI) vwCl [] s := hK
  refine W.widen (k := 2) (n := 9) (Nat.le_of_ble_eq_true rfl) (Nat.le_of_ble_eq_true rfl) ?_
  have hPc := hP.sub (ws' := [(l1, .inr (1, [.int 0, .ref a0, .int 0])), (q_5, .inr (10, [.int 2, .ref u1_7, .int (-1), .int (-1), .int (-1)]))]) [1, 2] rfl
  have hDc := hD.sub (ws' := [(l1, .inr (1, [.int 0, .ref a0, .int 0])), (q_5, .inr (10, [.int 2, .ref u1_7, .int (-1), .int (-1), .int (-1)]))]) [1, 2] (by decide) rfl
  have hKc := hK.sub (tys' := []) [] rfl
  have hFc := va_free (wc := [(l1, .inr (1, [.int 0, .ref a0, .int 0])), (q_5, .inr (10, [.int 2, .ref u1_7, .int (-1), .int (-1), .int (-1)]))]) hD hS hA [1, 2] rfl
  have hZc := ((hZ.kept hS.2.1).narrow hFc)
  refine va_calli (va_runV (As := [.ref q_5]) (rest := []) ⟨hx, hb, hml, hown, hts⟩ (c_Jx4a65c_add_9ea2d_M l hnt dC dI a0 l1 q_5 2 u1_7 ((-1)) ((-1)) ((-1)) H.size ) (cwV 1 hts (goodIn_of _ (by decide +kernel)) rfl rfl rfl (by decide +kernel) ⟨Nat.le_of_ble_eq_true rfl, Nat.le_of_ble_eq_true rfl⟩) ⟨fun a U g mk q => by obtain ⟨q0, q1, qP, qK, qD, qZ⟩ := q; exact ⟨q0, q1, qP, va_K.moved (u := U) (U := U.calling g mk a) (Vm.Alike.refl U.vm) qK, qD, qZ.call⟩, va_recv hKc hPc (ci := 1) (q0 := 0) rfl rfl, fun U hU hW => ⟨rfl, by rw [hU], by rw [hU]; exact hPc, va_K.moved hW.alike hKc, hDc.weaken (fun _ _ _ _ => trivial), by rw [hU]; exact hZc.warm hW⟩⟩ rfl rfl hl.1 rfl (lv_room (Nat.le_of_ble_eq_true rfl)) dX10_machine_50 ⟨Nat.le_of_ble_eq_true rfl, Nat.le_of_ble_eq_true rfl⟩) hS (fun q _ h => hFc q h) hFc (fun r_8 u t H1 locs ht hvm hw hB hz1 hk1 hS => ?_)
  obtain ⟨q_9, hP1, hK1, hD1⟩ := hB
  rw [ht] at hP1
  have hK1 := va_K.moved hvm.symm hK1
  obtain ⟨hP, hD⟩ := va_join (wr := [(m0, .inr (12, [.int 0, .ref l1, .ref l2, .int 0, .int 0, .int 0, .long 0]))]) (w1 := [(l1, .inr (1, [.int 1, .ref q_9, .int 1]))]) hP hD [1, 2] [0] rfl rfl (by decide) (by decide) hk1 hFc hP1 hD1
  have hK := (hK.sub (tys' := []) [] rfl).app hK1
  generalize H1 = H at hP hS ⊢
  have hP : va_P (dC, dI) vwCl [(m0, .inr (12, [.int 0, .ref l1, .ref l2, .int 0, .int 0, .int 0, .long 0])), (l1, .inr (1, [.int 1, .ref q_9, .int 1]))] H := hP
  have hD : va_D A [(m0, .inr (12, [.int 0, .ref l1, .ref l2, .int 0, .int 0, .int 0, .long 0])), (l1, .inr (1, [.int 1, .ref q_9, .int 1]))] := hD
  have hK : va_K (dC, dI) vwCl [] s := hK
  refine W.widen (k := 3) (n := 19) (Nat.le_of_ble_eq_true rfl) (Nat.le_of_ble_eq_true rfl) ?_
  obtain rfl : r_8 = 1 := hw
  refine lv_pop hx hb dX10_machine_53 rfl ?_
  refine lv_aload_n hx hb dX10_machine_54 rfl (lv_at hl 0 rfl) ?_
  refine va_get (D := (dC, dI)) (ci := 12) (v := .ref l1) (C := RX10) (T := TX10) (N := 7) hx hb hts hiX10 hown hK hP 0 rfl rfl 1 (by decide) (hts (.fieldLink RX10 10 "HaltingaleModel" "machines" "Ljava/util/ArrayList;") (by decide +kernel)) (fun _ h9 => h9) rfl dX10_machine_55 ?_
  have hPc := hP.sub (ws' := [(l1, .inr (1, [.int 1, .ref q_9, .int 1]))]) [1] rfl
  have hDc := hD.sub (ws' := [(l1, .inr (1, [.int 1, .ref q_9, .int 1]))]) [1] (by decide) rfl
  have hKc := hK.sub (tys' := []) [] rfl
  have hFc := va_free (wc := [(l1, .inr (1, [.int 1, .ref q_9, .int 1]))]) hD hS hA [1] rfl
  have hZc := ((hZ.kept hS.2.1).narrow hFc)
  refine va_calli (va_runV (As := []) (rest := []) ⟨hx, hb, hml, hown, hts⟩ (c_Jx4a65c_size_8abf5 l hnt dC dI a0 l1 1 q_9 1 H.size ) (cwV 0 hts (goodIn_of _ (by decide +kernel)) rfl rfl rfl (by decide +kernel) ⟨Nat.le_of_ble_eq_true rfl, Nat.le_of_ble_eq_true rfl⟩) ⟨fun a U g mk q => by obtain ⟨q0, q1, qP, qK, qD, qZ⟩ := q; exact ⟨q0, q1, qP, va_K.moved (u := U) (U := U.calling g mk a) (Vm.Alike.refl U.vm) qK, qD, qZ.call⟩, va_recv hKc hPc (ci := 1) (q0 := 0) rfl rfl, fun U hU hW => ⟨rfl, by rw [hU], by rw [hU]; exact hPc, va_K.moved hW.alike hKc, hDc.weaken (fun _ _ _ _ => trivial), by rw [hU]; exact hZc.warm hW⟩⟩ rfl rfl hl.1 rfl (lv_room (Nat.le_of_ble_eq_true rfl)) dX10_machine_58 ⟨Nat.le_of_ble_eq_true rfl, Nat.le_of_ble_eq_true rfl⟩) hS (fun q _ h => hFc q h) hFc (fun r_10 u t H1 locs ht hvm hw hB hz1 hk1 hS => ?_)
  obtain ⟨hP1, hK1, hD1⟩ := hB
  rw [ht] at hP1
  have hK1 := va_K.moved hvm.symm hK1
  obtain ⟨hP, hD⟩ := va_join (wr := [(m0, .inr (12, [.int 0, .ref l1, .ref l2, .int 0, .int 0, .int 0, .long 0]))]) (w1 := [(l1, .inr (1, [.int 1, .ref q_9, .int 1]))]) hP hD [1] [0] rfl rfl (by decide) (by decide) hk1 hFc hP1 hD1
  have hK := (hK.sub (tys' := []) [] rfl).app hK1
  generalize H1 = H at hP hS ⊢
  have hP : va_P (dC, dI) vwCl [(m0, .inr (12, [.int 0, .ref l1, .ref l2, .int 0, .int 0, .int 0, .long 0])), (l1, .inr (1, [.int 1, .ref q_9, .int 1]))] H := hP
  have hD : va_D A [(m0, .inr (12, [.int 0, .ref l1, .ref l2, .int 0, .int 0, .int 0, .long 0])), (l1, .inr (1, [.int 1, .ref q_9, .int 1]))] := hD
  have hK : va_K (dC, dI) vwCl [] s := hK
  refine W.widen (k := 3) (n := 19) (Nat.le_of_ble_eq_true rfl) (Nat.le_of_ble_eq_true rfl) ?_
  obtain rfl : r_10 = 1 := hw
  refine lv_iconst (v := 1) hx hb dX10_machine_61 (by decide) ?_
  refine lv_isub hx hb dX10_machine_62 ?_
  refine lv_topi (fun x_11 ex_11 => ?_)
  obtain rfl : x_11 = 0 := ex_11.trans (by decide)
  have hP9 := hP.sub (ws' := [(m0, .inr (12, [.int 0, .ref l1, .ref l2, .int 0, .int 0, .int 0, .long 0]))]) [0] rfl
  have hD9 := hD.sub (ws' := [(m0, .inr (12, [.int 0, .ref l1, .ref l2, .int 0, .int 0, .int 0, .long 0]))]) [0] (by decide) rfl
  have hK9 := hK.sub (tys' := []) [] rfl
  refine W.widen (k := 3) (n := 19) (Nat.le_of_ble_eq_true rfl) (Nat.le_of_ble_eq_true rfl) ?_
  exact W.iret (v := 0) hx hb hr (fun t ht hW => ⟨⟨0, (), rfl, rfl, ⟨by rw [ht]; exact hP9, va_K.moved hW.alike hK9, hD9⟩⟩, hS.F ht⟩) hS.2.2 dX10_machine_63

def zs_c_X8_init_3 : List Cond := .code yX8_init cX8_init 2 none :: (([.methodLink RX8 3 objectInit, .instanceMethod objectInit, .code objectInit ⟨#[0xb1]⟩ 1 none, .fieldLink RX8 9 "HaltingaleModel$Machine" "kind" "I", .fieldLink RX8 15 "HaltingaleModel$Machine" "a" "I", .fieldLink RX8 18 "HaltingaleModel$Machine" "b" "I", .fieldLink RX8 21 "HaltingaleModel$Machine" "states" "I", .classLink RX8 24 "[I", .fieldLink RX8 26 "HaltingaleModel$Machine" "cells" "[[I"] : List Cond) ++ wsX80)
set_option maxHeartbeats 4000000 in
set_option maxRecDepth 100000 in
/-- Machine(3) -/
theorem c_X8_init_3 (l : Launch) (hnt : l.stackTraces = false) (dC : Nat → ClassId) (dI : Nat → Nat → Nat) (a0 : Nat) (h0 : Nat) (sz : Nat)  : Met l yX8_init zs_c_X8_init_3 ({ frames := 1, cells := 1, slots := 6, locals := 12 }) (va_Pc [.ref h0, .int 3] (fun U => U.heap.size = sz ∧ va_P (dC, dI) vwCl [(h0, .inr (10, [.int 0, .null, .int 0, .int 0, .int 0]))] U.heap ∧ va_K (dC, dI) vwCl [] U ∧ va_D (fun _ => True) [(h0, .inr (10, [.int 0, .null, .int 0, .int 0, .int 0]))] ∧ zB a0 (va_A [(h0, .inr (10, [.int 0, .null, .int 0, .int 0, .int 0]))] sz) U U.heap)) (va_Qv (fun _ : Unit => True) (fun _ t => ∃ (u1 : Nat), va_P (dC, dI) vwCl [(h0, .inr (10, [.int 3, .ref u1, .int (-1), .int (-1), .int (-1)]))] t.heap ∧ va_K (dC, dI) vwCl [] t ∧ va_D (va_A [(h0, .inr (10, [.int 0, .null, .int 0, .int 0, .int 0]))] sz) [(h0, .inr (10, [.int 3, .ref u1, .int (-1), .int (-1), .int (-1)]))]) (va_A [(h0, .inr (10, [.int 0, .null, .int 0, .int 0, .int 0]))] sz)) 1 6 (va_A [(h0, .inr (10, [.int 0, .null, .int 0, .int 0, .int 0]))] sz) := by
  refine Met.ofW (cc := cX8_init) (maxL := 2) (ret := none) (by decide) rfl ?_
  intro p e s m args below meth c s₁ B hml hv
  obtain ⟨rfl, hsz, hP, hK, hD0, hZ⟩ := hv
  have hx := B.exec
  have hb := B.bytes
  have hr := B.returns
  have hts := atoms_spec (ws := zs_c_X8_init_3) B.pre
  have hown : s.vm.findClass RX8 = some m.cls := findClass_of_methodNamed B.named
  have hlocks := B.notSynchronized
  have hin : meth.name = "<init>" := (name_of_methodNamed B.named B.method).1
  have hiX8 : ∀ w ∈ wsX80, w ∈ zs_c_X8_init_3 := by decide +kernel
  subst hsz
  have hD := hD0.self (sz := s.heap.size)
  generalize hAe : va_A [(h0, .inr (10, [.int 0, .null, .int 0, .int 0, .int 0]))] s.heap.size = A at hD hZ ⊢
  have hA : ∀ q : Nat, s.heap.size ≤ q → A q := fun q h => by rw [← hAe]; exact Or.inr h
  have hS : va_S A s.heap s.heap [] := va_S.rf
  have hl := lv_entry ([.ref h0, .int 3]) (n := 2) (Nat.le_of_ble_eq_true rfl)
  rw [lg_entry_eq]
  generalize (lg_sl ([.ref h0, .int 3]) ++ List.replicate (2 - (lg_sl ([.ref h0, .int 3])).length) Slot.unset).toArray = ls at hl ⊢
  have hl : lv_has ls 2 [(0, .ref h0), (1, .int 3)] := hl
  refine lv_aload_n hx hb dX8_init_0 rfl (lv_at hl 0 rfl) ?_
  refine W.objInit hx hb hown (hts (.methodLink RX8 3 objectInit) (by decide +kernel)) (hts (.instanceMethod objectInit) (by decide +kernel)) (hts (.code objectInit ⟨#[0xb1]⟩ 1 none) (by decide +kernel)) rfl (by rw [hml]; exact hl.1) rfl dX8_init_1 (Nat.le_of_ble_eq_true rfl) (Nat.le_of_ble_eq_true rfl) ?_
  refine W.eq (g2 := F0 m 4 ls []) rfl ?_
  refine lv_aload_n hx hb dX8_init_4 rfl (lv_at hl 0 rfl) ?_
  refine lv_iconst (v := (-1)) hx hb dX8_init_5 (by decide) ?_
  refine va_put (D := (dC, dI)) (ci := 10) (v := .int (-1)) (ty := .int) (C := RX8) (T := TX8) (N := 5) hx hb hts hiX8 tyX8 tyX8_ok nmX8 hown hK hP hD hS 0 rfl rfl 2 (by decide) (hts (.fieldLink RX8 9 "HaltingaleModel$Machine" "kind" "I") (by decide +kernel)) (fun _ h9 => h9) rfl (by decide +kernel) rfl rfl (Nat.le_of_ble_eq_true rfl) dX8_init_6 (fun H locs hP hD hS => ?_)
  have hP : va_P (dC, dI) vwCl [(h0, .inr (10, [.int 0, .null, .int (-1), .int 0, .int 0]))] H := hP
  have hD : va_D A [(h0, .inr (10, [.int 0, .null, .int (-1), .int 0, .int 0]))] := hD
  refine lv_aload_n hx hb dX8_init_9 rfl (lv_at hl 0 rfl) ?_
  refine lv_iconst (v := (-1)) hx hb dX8_init_10 (by decide) ?_
  refine va_put (D := (dC, dI)) (ci := 10) (v := .int (-1)) (ty := .int) (C := RX8) (T := TX8) (N := 5) hx hb hts hiX8 tyX8 tyX8_ok nmX8 hown hK hP hD hS 0 rfl rfl 3 (by decide) (hts (.fieldLink RX8 15 "HaltingaleModel$Machine" "a" "I") (by decide +kernel)) (fun _ h9 => h9) rfl (by decide +kernel) rfl rfl (Nat.le_of_ble_eq_true rfl) dX8_init_11 (fun H locs hP hD hS => ?_)
  have hP : va_P (dC, dI) vwCl [(h0, .inr (10, [.int 0, .null, .int (-1), .int (-1), .int 0]))] H := hP
  have hD : va_D A [(h0, .inr (10, [.int 0, .null, .int (-1), .int (-1), .int 0]))] := hD
  refine lv_aload_n hx hb dX8_init_14 rfl (lv_at hl 0 rfl) ?_
  refine lv_iconst (v := (-1)) hx hb dX8_init_15 (by decide) ?_
  refine va_put (D := (dC, dI)) (ci := 10) (v := .int (-1)) (ty := .int) (C := RX8) (T := TX8) (N := 5) hx hb hts hiX8 tyX8 tyX8_ok nmX8 hown hK hP hD hS 0 rfl rfl 4 (by decide) (hts (.fieldLink RX8 18 "HaltingaleModel$Machine" "b" "I") (by decide +kernel)) (fun _ h9 => h9) rfl (by decide +kernel) rfl rfl (Nat.le_of_ble_eq_true rfl) dX8_init_16 (fun H locs hP hD hS => ?_)
  have hP : va_P (dC, dI) vwCl [(h0, .inr (10, [.int 0, .null, .int (-1), .int (-1), .int (-1)]))] H := hP
  have hD : va_D A [(h0, .inr (10, [.int 0, .null, .int (-1), .int (-1), .int (-1)]))] := hD
  refine lv_aload_n hx hb dX8_init_19 rfl (lv_at hl 0 rfl) ?_
  refine lv_iload_n hx hb dX8_init_20 rfl (lv_at hl 1 rfl) ?_
  refine va_putF (D := (dC, dI)) (ci := 10) (v := .int 3) (ty := .int) (C := RX8) (T := TX8) (N := 5) hx hb hts hiX8 tyX8 tyX8_ok nmX8 hown hK hP hD hS 0 rfl rfl 0 (by decide) (hts (.fieldLink RX8 21 "HaltingaleModel$Machine" "states" "I") (by decide +kernel)) (fun _ h9 => h9) rfl hin rfl (by decide +kernel) rfl rfl (Nat.le_of_ble_eq_true rfl) dX8_init_21 (fun H locs hP hD hS => ?_)
  have hP : va_P (dC, dI) vwCl [(h0, .inr (10, [.int 3, .null, .int (-1), .int (-1), .int (-1)]))] H := hP
  have hD : va_D A [(h0, .inr (10, [.int 3, .null, .int (-1), .int (-1), .int (-1)]))] := hD
  refine lv_aload_n hx hb dX8_init_24 rfl (lv_at hl 0 rfl) ?_
  refine lv_iconst (v := 2) hx hb dX8_init_25 (by decide) ?_
  refine lv_iload_n hx hb dX8_init_26 rfl (lv_at hl 1 rfl) ?_
  refine lv_imul hx hb dX8_init_27 ?_
  refine lv_topi (fun x_1 ex_1 => ?_)
  obtain rfl : x_1 = 6 := ex_1.trans (by decide)
  refine zz_newA (N' := 6) hx hb hown (hts (.classLink RX8 24 "[I") (by decide +kernel)) hZ.aoI hP hD hS (by decide) (by decide) (Nat.le_of_ble_eq_true rfl) (Nat.le_of_ble_eq_true rfl) (Nat.le_of_ble_eq_true rfl) dX8_init_28 (fun q_2 H hP hD hS => ?_)
  refine W.widen (k := 1) (n := 6) (Nat.le_of_ble_eq_true rfl) (Nat.le_of_ble_eq_true rfl) ?_
  refine va_putF (D := (dC, dI)) (ci := 10) (v := .ref q_2) (ty := .array (.array .int)) (C := RX8) (T := TX8) (N := 5) hx hb hts hiX8 tyX8 tyX8_ok nmX8 hown hK hP hD hS 0 rfl rfl 1 (by decide) (hts (.fieldLink RX8 26 "HaltingaleModel$Machine" "cells" "[[I") (by decide +kernel)) (fun _ h9 => h9) rfl hin rfl (by decide +kernel) rfl rfl (Nat.le_of_ble_eq_true rfl) dX8_init_31 (fun H locs hP hD hS => ?_)
  have hP : va_P (dC, dI) vwCl [(h0, .inr (10, [.int 3, .ref q_2, .int (-1), .int (-1), .int (-1)]))] H := hP
  have hD : va_D A [(h0, .inr (10, [.int 3, .ref q_2, .int (-1), .int (-1), .int (-1)]))] := hD
  have hP9 := hP.sub (ws' := [(h0, .inr (10, [.int 3, .ref q_2, .int (-1), .int (-1), .int (-1)]))]) [0] rfl
  have hD9 := hD.sub (ws' := [(h0, .inr (10, [.int 3, .ref q_2, .int (-1), .int (-1), .int (-1)]))]) [0] (by decide) rfl
  have hK9 := hK.sub (tys' := []) [] rfl
  refine W.widen (k := 1) (n := 6) (Nat.le_of_ble_eq_true rfl) (Nat.le_of_ble_eq_true rfl) ?_
  exact W.vret hx hb hr (fun t ht hW => ⟨⟨(), rfl, trivial, ⟨q_2, by rw [ht]; exact hP9, va_K.moved hW.alike hK9, hD9⟩⟩, hS.F ht⟩) hS.2.2 dX8_init_34

def zs_c_X10_machine_3 : List Cond := .code yX10_machine cX10_machine 2 (some .int) :: (([.fieldLink RX10 19 "HaltingaleModel" "thrown" "I", .code yX10_is cX10_is 3 (some .boolean), .methodLink RX10 27 yX10_is, .static yX10_is, .initialized RX10, .fieldLink RX10 10 "HaltingaleModel" "machines" "Ljava/util/ArrayList;", .code yJx4a65c_size_8abf5 cJx4a65c_size_8abf5 1 (some .int), .fieldLink RJx4a65c 48 "java/util/ArrayList" "size" "I", .methodLink RX10 23 yJx4a65c_size_8abf5, .instanceMethod yJx4a65c_size_8abf5, .initialized RJx4a65c, .selects RJx4a65c yJx4a65c_size_8abf5 yJx4a65c_size_8abf5, .classLink RX10 35 RX8, .instantiable RX8 5, .initialized RX8, .code yX8_init cX8_init 2 none, .methodLink RX8 3 objectInit, .instanceMethod objectInit, .code objectInit ⟨#[0xb1]⟩ 1 none, .fieldLink RX8 9 "HaltingaleModel$Machine" "kind" "I", .fieldLink RX8 15 "HaltingaleModel$Machine" "a" "I", .fieldLink RX8 18 "HaltingaleModel$Machine" "b" "I", .fieldLink RX8 21 "HaltingaleModel$Machine" "states" "I", .classLink RX8 24 "[I", .fieldLink RX8 26 "HaltingaleModel$Machine" "cells" "[[I", .methodLink RX10 37 yX8_init, .instanceMethod yX8_init, .code yJx4a65c_add_9ea2d cJx4a65c_add_9ea2d 2 (some .boolean), .sameField "java/util/ArrayList" "java/util/AbstractList" "modCount" "I", .fieldLink RJx4a65c 63 "java/util/ArrayList" "modCount" "I", .fieldLink RJx4a65c 9 "java/util/ArrayList" "elementData" "[Ljava/lang/Object;", .code yJx4a65c_add_72be8 cJx4a65c_add_72be8 4 none, .code yJx4a65c_grow_d5877 cJx4a65c_grow_d5877 1 (some (.array (.object "java/lang/Object"))), .code yJx4a65c_grow_92f84 cJx4a65c_grow_92f84 4 (some (.array (.object "java/lang/Object"))), .fieldLink RJx4a65c 39 "java/util/ArrayList" "DEFAULTCAPACITY_EMPTY_ELEMENTDATA" "[Ljava/lang/Object;", .methodLink RJx4a65c 79 Lib.Math.max.name, .static Lib.Math.max.name, .initialized "java/lang/Math", .code Lib.Math.max.name Lib.Math.max.code 2 (some .int), .classLink RJx4a65c 7 "java/lang/Object", .methodLink RJx4a65c 69 yJx4a65c_grow_92f84, .instanceMethod yJx4a65c_grow_92f84, .selects RJx4a65c yJx4a65c_grow_92f84 yJx4a65c_grow_92f84, .methodLink RJx4a65c 129 yJx4a65c_grow_d5877, .instanceMethod yJx4a65c_grow_d5877, .selects RJx4a65c yJx4a65c_grow_d5877 yJx4a65c_grow_d5877, .methodLink RJx4a65c 131 yJx4a65c_add_72be8, .instanceMethod yJx4a65c_add_72be8, .selects RJx4a65c yJx4a65c_add_72be8 yJx4a65c_add_72be8, .methodLink RX10 40 yJx4a65c_add_9ea2d, .instanceMethod yJx4a65c_add_9ea2d, .selects RJx4a65c yJx4a65c_add_9ea2d yJx4a65c_add_9ea2d] : List Cond) ++ wsX100 ++ wsJx4a65c0 ++ wsX80)
set_option maxHeartbeats 4000000 in
set_option maxRecDepth 100000 in
/-- machine(3), the first -/
theorem c_X10_machine_3 (l : Launch) (hnt : l.stackTraces = false) (dC : Nat → ClassId) (dI : Nat → Nat → Nat) (a0 : Nat) (m0 : Nat) (l1 : Nat) (l2 : Nat) (sz : Nat)  : Met l yX10_machine zs_c_X10_machine_3 ({ frames := 5, cells := 3, slots := 21, locals := 101 }) (va_Pc [.ref m0, .int 3] (fun U => U.heap.size = sz ∧ va_P (dC, dI) vwCl [(m0, .inr (12, [.int 0, .ref l1, .ref l2, .int 0, .int 0, .int 0, .long 0])), (l1, .inr (1, [.int 0, .ref a0, .int 0]))] U.heap ∧ va_K (dC, dI) vwCl [] U ∧ va_D (fun _ => True) [(m0, .inr (12, [.int 0, .ref l1, .ref l2, .int 0, .int 0, .int 0, .long 0])), (l1, .inr (1, [.int 0, .ref a0, .int 0]))] ∧ zB a0 (va_A [(m0, .inr (12, [.int 0, .ref l1, .ref l2, .int 0, .int 0, .int 0, .long 0])), (l1, .inr (1, [.int 0, .ref a0, .int 0]))] sz) U U.heap)) (va_Qi (fun (r : Int32) (_ : Unit) => r = 0) (fun _ t => va_P (dC, dI) vwCl [(m0, .inr (12, [.int 0, .ref l1, .ref l2, .int 0, .int 0, .int 0, .long 0]))] t.heap ∧ va_K (dC, dI) vwCl [] t ∧ va_D (va_A [(m0, .inr (12, [.int 0, .ref l1, .ref l2, .int 0, .int 0, .int 0, .long 0])), (l1, .inr (1, [.int 0, .ref a0, .int 0]))] sz) [(m0, .inr (12, [.int 0, .ref l1, .ref l2, .int 0, .int 0, .int 0, .long 0]))]) (va_A [(m0, .inr (12, [.int 0, .ref l1, .ref l2, .int 0, .int 0, .int 0, .long 0])), (l1, .inr (1, [.int 0, .ref a0, .int 0]))] sz)) 3 21 (va_A [(m0, .inr (12, [.int 0, .ref l1, .ref l2, .int 0, .int 0, .int 0, .long 0])), (l1, .inr (1, [.int 0, .ref a0, .int 0]))] sz) := by
  refine Met.ofW (cc := cX10_machine) (maxL := 2) (ret := (some .int)) (by decide) rfl ?_
  intro p e s m args below meth c s₁ B hml hv
  obtain ⟨rfl, hsz, hP, hK, hD0, hZ⟩ := hv
  have hx := B.exec
  have hb := B.bytes
  have hr := B.returns
  have hts := atoms_spec (ws := zs_c_X10_machine_3) B.pre
  have hown : s.vm.findClass RX10 = some m.cls := findClass_of_methodNamed B.named
  have hlocks := B.notSynchronized
  have hiX10 : ∀ w ∈ wsX100, w ∈ zs_c_X10_machine_3 := by decide +kernel
  have hiX8 : ∀ w ∈ wsX80, w ∈ zs_c_X10_machine_3 := by decide +kernel
  subst hsz
  have hD := hD0.self (sz := s.heap.size)
  generalize hAe : va_A [(m0, .inr (12, [.int 0, .ref l1, .ref l2, .int 0, .int 0, .int 0, .long 0])), (l1, .inr (1, [.int 0, .ref a0, .int 0]))] s.heap.size = A at hD hZ ⊢
  have hA : ∀ q : Nat, s.heap.size ≤ q → A q := fun q h => by rw [← hAe]; exact Or.inr h
  have hS : va_S A s.heap s.heap [] := va_S.rf
  have hl := lv_entry ([.ref m0, .int 3]) (n := 2) (Nat.le_of_ble_eq_true rfl)
  rw [lg_entry_eq]
  generalize (lg_sl ([.ref m0, .int 3]) ++ List.replicate (2 - (lg_sl ([.ref m0, .int 3])).length) Slot.unset).toArray = ls at hl ⊢
  have hl : lv_has ls 2 [(0, .ref m0), (1, .int 3)] := hl
  refine lv_aload_n hx hb dX10_machine_0 rfl (lv_at hl 0 rfl) ?_
  refine lv_iconst (v := 0) hx hb dX10_machine_1 (by decide) ?_
  refine va_put (D := (dC, dI)) (ci := 12) (v := .int 0) (ty := .int) (C := RX10) (T := TX10) (N := 7) hx hb hts hiX10 tyX10 tyX10_ok nmX10 hown hK hP hD hS 0 rfl rfl 0 (by decide) (hts (.fieldLink RX10 19 "HaltingaleModel" "thrown" "I") (by decide +kernel)) (fun _ h9 => h9) rfl (by decide +kernel) rfl rfl (Nat.le_of_ble_eq_true rfl) dX10_machine_2 (fun H locs hP hD hS => ?_)
  have hP : va_P (dC, dI) vwCl [(m0, .inr (12, [.int 0, .ref l1, .ref l2, .int 0, .int 0, .int 0, .long 0])), (l1, .inr (1, [.int 0, .ref a0, .int 0]))] H := hP
  have hD : va_D A [(m0, .inr (12, [.int 0, .ref l1, .ref l2, .int 0, .int 0, .int 0, .long 0])), (l1, .inr (1, [.int 0, .ref a0, .int 0]))] := hD
  refine lv_iload_n hx hb dX10_machine_5 rfl (lv_at hl 1 rfl) ?_
  refine lv_iconst (v := 2) hx hb dX10_machine_6 (by decide) ?_
  refine lv_iconst (v := 4) hx hb dX10_machine_7 (by decide) ?_
  have hPc := hP.sub (ws' := []) [] rfl
  have hDc := hD.sub (ws' := []) [] (by decide) rfl
  have hKc := hK.sub (tys' := []) [] rfl
  have hFc := va_free (wc := []) hD hS hA [] rfl
  have hZc := ((hZ.kept hS.2.1).narrow hFc)
  refine va_calli (va_runS (As := [.int 3, .int 2, .int 4]) (rest := []) ⟨hx, hb, hml, hown, hts⟩ (c_X10_is l hnt dC dI a0 3 2 4 H.size ) (va_cwS 3 hts (goodIn_of _ (by decide +kernel)) rfl rfl rfl (by decide +kernel) ⟨Nat.le_of_ble_eq_true rfl, Nat.le_of_ble_eq_true rfl⟩) ⟨fun a U g mk q => by obtain ⟨q0, q1, qP, qK, qD, qZ⟩ := q; exact ⟨q0, q1, qP, va_K.moved (u := U) (U := U.calling g mk a) (Vm.Alike.refl U.vm) qK, qD, qZ.call⟩, fun U hU hW => ⟨rfl, by rw [hU], by rw [hU]; exact hPc, va_K.moved hW.alike hKc, hDc.weaken (fun _ _ _ _ => trivial), by rw [hU]; exact hZc.warm hW⟩⟩ rfl rfl hl.1 rfl (lv_room (Nat.le_of_ble_eq_true rfl)) dX10_machine_8 ⟨Nat.le_of_ble_eq_true rfl, Nat.le_of_ble_eq_true rfl⟩) hS (fun q _ h => hFc q h) hFc (fun r_1 u t H1 locs ht hvm hw hB hz1 hk1 hS => ?_)
  obtain ⟨hP1, hK1, hD1⟩ := hB
  rw [ht] at hP1
  have hK1 := va_K.moved hvm.symm hK1
  obtain ⟨hP, hD⟩ := va_join (wr := [(m0, .inr (12, [.int 0, .ref l1, .ref l2, .int 0, .int 0, .int 0, .long 0])), (l1, .inr (1, [.int 0, .ref a0, .int 0]))]) (w1 := []) hP hD [] [0, 1] rfl rfl (by decide) (by decide) hk1 hFc hP1 hD1
  have hK := (hK.sub (tys' := []) [] rfl).app hK1
  generalize H1 = H at hP hS ⊢
  have hP : va_P (dC, dI) vwCl [(m0, .inr (12, [.int 0, .ref l1, .ref l2, .int 0, .int 0, .int 0, .long 0])), (l1, .inr (1, [.int 0, .ref a0, .int 0]))] H := hP
  have hD : va_D A [(m0, .inr (12, [.int 0, .ref l1, .ref l2, .int 0, .int 0, .int 0, .long 0])), (l1, .inr (1, [.int 0, .ref a0, .int 0]))] := hD
  have hK : va_K (dC, dI) vwCl [] s := hK
  refine W.widen (k := 0) (n := 0) (Nat.le_of_ble_eq_true rfl) (Nat.le_of_ble_eq_true rfl) ?_
  obtain rfl : r_1 = 1 := hw.trans (by decide)
  refine lv_if_ne (tgt := 20) hx hb dX10_machine_11 (by decide) (fun c_2 => ?_) (fun c_2 => ?_)
  rotate_left
  · (first | exact absurd c_2 (by decide) | exact absurd (by decide) c_2)
  refine lv_aload_n hx hb dX10_machine_20 rfl (lv_at hl 0 rfl) ?_
  refine va_get (D := (dC, dI)) (ci := 12) (v := .ref l1) (C := RX10) (T := TX10) (N := 7) hx hb hts hiX10 hown hK hP 0 rfl rfl 1 (by decide) (hts (.fieldLink RX10 10 "HaltingaleModel" "machines" "Ljava/util/ArrayList;") (by decide +kernel)) (fun _ h9 => h9) rfl dX10_machine_21 ?_
  have hPc := hP.sub (ws' := [(l1, .inr (1, [.int 0, .ref a0, .int 0]))]) [1] rfl
  have hDc := hD.sub (ws' := [(l1, .inr (1, [.int 0, .ref a0, .int 0]))]) [1] (by decide) rfl
  have hKc := hK.sub (tys' := []) [] rfl
  have hFc := va_free (wc := [(l1, .inr (1, [.int 0, .ref a0, .int 0]))]) hD hS hA [1] rfl
  have hZc := ((hZ.kept hS.2.1).narrow hFc)
  refine va_calli (va_runV (As := []) (rest := []) ⟨hx, hb, hml, hown, hts⟩ (c_Jx4a65c_size_8abf5 l hnt dC dI a0 l1 0 a0 0 H.size ) (cwV 0 hts (goodIn_of _ (by decide +kernel)) rfl rfl rfl (by decide +kernel) ⟨Nat.le_of_ble_eq_true rfl, Nat.le_of_ble_eq_true rfl⟩) ⟨fun a U g mk q => by obtain ⟨q0, q1, qP, qK, qD, qZ⟩ := q; exact ⟨q0, q1, qP, va_K.moved (u := U) (U := U.calling g mk a) (Vm.Alike.refl U.vm) qK, qD, qZ.call⟩, va_recv hKc hPc (ci := 1) (q0 := 0) rfl rfl, fun U hU hW => ⟨rfl, by rw [hU], by rw [hU]; exact hPc, va_K.moved hW.alike hKc, hDc.weaken (fun _ _ _ _ => trivial), by rw [hU]; exact hZc.warm hW⟩⟩ rfl rfl hl.1 rfl (lv_room (Nat.le_of_ble_eq_true rfl)) dX10_machine_24 ⟨Nat.le_of_ble_eq_true rfl, Nat.le_of_ble_eq_true rfl⟩) hS (fun q _ h => hFc q h) hFc (fun r_3 u t H1 locs ht hvm hw hB hz1 hk1 hS => ?_)
  obtain ⟨hP1, hK1, hD1⟩ := hB
  rw [ht] at hP1
  have hK1 := va_K.moved hvm.symm hK1
  obtain ⟨hP, hD⟩ := va_join (wr := [(m0, .inr (12, [.int 0, .ref l1, .ref l2, .int 0, .int 0, .int 0, .long 0]))]) (w1 := [(l1, .inr (1, [.int 0, .ref a0, .int 0]))]) hP hD [1] [0] rfl rfl (by decide) (by decide) hk1 hFc hP1 hD1
  have hK := (hK.sub (tys' := []) [] rfl).app hK1
  generalize H1 = H at hP hS ⊢
  have hP : va_P (dC, dI) vwCl [(m0, .inr (12, [.int 0, .ref l1, .ref l2, .int 0, .int 0, .int 0, .long 0])), (l1, .inr (1, [.int 0, .ref a0, .int 0]))] H := hP
  have hD : va_D A [(m0, .inr (12, [.int 0, .ref l1, .ref l2, .int 0, .int 0, .int 0, .long 0])), (l1, .inr (1, [.int 0, .ref a0, .int 0]))] := hD
  have hK : va_K (dC, dI) vwCl [] s := hK
  refine W.widen (k := 0) (n := 0) (Nat.le_of_ble_eq_true rfl) (Nat.le_of_ble_eq_true rfl) ?_
  obtain rfl : r_3 = 0 := hw
  refine lv_bipush (v := 12) hx hb dX10_machine_27 (by decide) ?_
  refine lv_icmp_ne (tgt := 38) hx hb dX10_machine_29 (by decide) (fun c_4 => ?_) (fun c_4 => ?_)
  rotate_left
  · (first | exact absurd c_4 (by decide) | exact absurd (by decide) c_4)
  refine lv_aload_n hx hb dX10_machine_38 rfl (lv_at hl 0 rfl) ?_
  refine va_get (D := (dC, dI)) (ci := 12) (v := .ref l1) (C := RX10) (T := TX10) (N := 7) hx hb hts hiX10 hown hK hP 0 rfl rfl 1 (by decide) (hts (.fieldLink RX10 10 "HaltingaleModel" "machines" "Ljava/util/ArrayList;") (by decide +kernel)) (fun _ h9 => h9) rfl dX10_machine_39 ?_
  refine va_new (ci := 10) (fs := [.int 0, .null, .int 0, .int 0, .int 0]) (C := RX8) (T := TX8) (N := 5) hx hb hts hiX8 tyX8 tyX8_ok hown (hts (.classLink RX10 35 RX8) (by decide +kernel)) (hts (.instantiable RX8 5) (by decide +kernel)) (hts (.initialized RX8) (by decide +kernel)) hK hP hD hS hA rfl (fun j hj => by rcases (show j = 0 ∨ j = 1 ∨ j = 2 ∨ j = 3 ∨ j = 4 by omega) with rfl | rfl | rfl | rfl | rfl <;> rfl) (Nat.le_of_ble_eq_true rfl) (Nat.le_of_ble_eq_true rfl) dX10_machine_42 (fun q_5 H hP hD hS => ?_)
  have hP : va_P (dC, dI) vwCl [(m0, .inr (12, [.int 0, .ref l1, .ref l2, .int 0, .int 0, .int 0, .long 0])), (l1, .inr (1, [.int 0, .ref a0, .int 0])), (q_5, .inr (10, [.int 0, .null, .int 0, .int 0, .int 0]))] H := hP
  have hD : va_D A [(m0, .inr (12, [.int 0, .ref l1, .ref l2, .int 0, .int 0, .int 0, .long 0])), (l1, .inr (1, [.int 0, .ref a0, .int 0])), (q_5, .inr (10, [.int 0, .null, .int 0, .int 0, .int 0]))] := hD
  refine W.widen (k := 1) (n := 5) (Nat.le_of_ble_eq_true rfl) (Nat.le_of_ble_eq_true rfl) ?_
  refine lv_dup hx hb dX10_machine_45 rfl ?_
  refine lv_iload_n hx hb dX10_machine_46 rfl (lv_at hl 1 rfl) ?_
  have hPc := hP.sub (ws' := [(q_5, .inr (10, [.int 0, .null, .int 0, .int 0, .int 0]))]) [2] rfl
  have hDc := hD.sub (ws' := [(q_5, .inr (10, [.int 0, .null, .int 0, .int 0, .int 0]))]) [2] (by decide) rfl
  have hKc := hK.sub (tys' := []) [] rfl
  have hFc := va_free (wc := [(q_5, .inr (10, [.int 0, .null, .int 0, .int 0, .int 0]))]) hD hS hA [2] rfl
  have hZc := ((hZ.kept hS.2.1).narrow hFc)
  refine va_callv (va_runI (As := [.int 3]) (rest := [.ref q_5, .ref l1]) ⟨hx, hb, hml, hown, hts⟩ (c_X8_init_3 l hnt dC dI a0 q_5 H.size ) (cwI 1 hts (goodIn_of _ (by decide +kernel)) rfl rfl rfl (hts (.initialized RX8) (by decide +kernel)) (hts (.methodLink RX10 37 yX8_init) (by decide +kernel)) (hts (.instanceMethod yX8_init) (by decide +kernel)) rfl (by decide +kernel) ⟨Nat.le_of_ble_eq_true rfl, Nat.le_of_ble_eq_true rfl⟩) ⟨fun a U g mk q => by obtain ⟨q0, q1, qP, qK, qD, qZ⟩ := q; exact ⟨q0, q1, qP, va_K.moved (u := U) (U := U.calling g mk a) (Vm.Alike.refl U.vm) qK, qD, qZ.call⟩, fun U hU hW => ⟨rfl, by rw [hU], by rw [hU]; exact hPc, va_K.moved hW.alike hKc, hDc.weaken (fun _ _ _ _ => trivial), by rw [hU]; exact hZc.warm hW⟩⟩ rfl rfl hl.1 rfl (lv_room (Nat.le_of_ble_eq_true rfl)) dX10_machine_47 ⟨Nat.le_of_ble_eq_true rfl, Nat.le_of_ble_eq_true rfl⟩) hS (fun q _ h => hFc q h) hFc (fun u t H1 locs ht hvm hw hB hz1 hk1 hS => ?_)
  obtain ⟨u1_7, hP1, hK1, hD1⟩ := hB
  rw [ht] at hP1
  have hK1 := va_K.moved hvm.symm hK1
  obtain ⟨hP, hD⟩ := va_join (wr := [(m0, .inr (12, [.int 0, .ref l1, .ref l2, .int 0, .int 0, .int 0, .long 0])), (l1, .inr (1, [.int 0, .ref a0, .int 0]))]) (w1 := [(q_5, .inr (10, [.int 3, .ref u1_7, .int (-1), .int (-1), .int (-1)]))]) hP hD [2] [0, 1] rfl rfl (by decide) (by decide) hk1 hFc hP1 hD1
  have hK := (hK.sub (tys' := []) [] rfl).app hK1
  generalize H1 = H at hP hS ⊢
  have hP : va_P (dC, dI) vwCl [(m0, .inr (12, [.int 0, .ref l1, .ref l2, .int 0, .int 0, .int 0, .long 0])), (l1, .inr (1, [.int 0, .ref a0, .int 0])), (q_5, .inr (10, [.int 3, .ref u1_7, .int (-1), .int (-1), .int (-1)]))] H := hP
  have hD : va_D A [(m0, .inr (12, [.int 0, .ref l1, .ref l2, .int 0, .int 0, .int 0, .long 0])), (l1, .inr (1, [.int 0, .ref a0, .int 0])), (q_5, .inr (10, [.int 3, .ref u1_7, .int (-1), .int (-1), .int (-1)]))] := hD
  have hK : va_K (dC, dI) vwCl [] s := hK
  refine W.widen (k := 2) (n := 11) (Nat.le_of_ble_eq_true rfl) (Nat.le_of_ble_eq_true rfl) ?_
  have hPc := hP.sub (ws' := [(l1, .inr (1, [.int 0, .ref a0, .int 0])), (q_5, .inr (10, [.int 3, .ref u1_7, .int (-1), .int (-1), .int (-1)]))]) [1, 2] rfl
  have hDc := hD.sub (ws' := [(l1, .inr (1, [.int 0, .ref a0, .int 0])), (q_5, .inr (10, [.int 3, .ref u1_7, .int (-1), .int (-1), .int (-1)]))]) [1, 2] (by decide) rfl
  have hKc := hK.sub (tys' := []) [] rfl
  have hFc := va_free (wc := [(l1, .inr (1, [.int 0, .ref a0, .int 0])), (q_5, .inr (10, [.int 3, .ref u1_7, .int (-1), .int (-1), .int (-1)]))]) hD hS hA [1, 2] rfl
  have hZc := ((hZ.kept hS.2.1).narrow hFc)
  refine va_calli (va_runV (As := [.ref q_5]) (rest := []) ⟨hx, hb, hml, hown, hts⟩ (c_Jx4a65c_add_9ea2d_M l hnt dC dI a0 l1 q_5 3 u1_7 ((-1)) ((-1)) ((-1)) H.size ) (cwV 1 hts (goodIn_of _ (by decide +kernel)) rfl rfl rfl (by decide +kernel) ⟨Nat.le_of_ble_eq_true rfl, Nat.le_of_ble_eq_true rfl⟩) ⟨fun a U g mk q => by obtain ⟨q0, q1, qP, qK, qD, qZ⟩ := q; exact ⟨q0, q1, qP, va_K.moved (u := U) (U := U.calling g mk a) (Vm.Alike.refl U.vm) qK, qD, qZ.call⟩, va_recv hKc hPc (ci := 1) (q0 := 0) rfl rfl, fun U hU hW => ⟨rfl, by rw [hU], by rw [hU]; exact hPc, va_K.moved hW.alike hKc, hDc.weaken (fun _ _ _ _ => trivial), by rw [hU]; exact hZc.warm hW⟩⟩ rfl rfl hl.1 rfl (lv_room (Nat.le_of_ble_eq_true rfl)) dX10_machine_50 ⟨Nat.le_of_ble_eq_true rfl, Nat.le_of_ble_eq_true rfl⟩) hS (fun q _ h => hFc q h) hFc (fun r_8 u t H1 locs ht hvm hw hB hz1 hk1 hS => ?_)
  obtain ⟨q_9, hP1, hK1, hD1⟩ := hB
  rw [ht] at hP1
  have hK1 := va_K.moved hvm.symm hK1
  obtain ⟨hP, hD⟩ := va_join (wr := [(m0, .inr (12, [.int 0, .ref l1, .ref l2, .int 0, .int 0, .int 0, .long 0]))]) (w1 := [(l1, .inr (1, [.int 1, .ref q_9, .int 1]))]) hP hD [1, 2] [0] rfl rfl (by decide) (by decide) hk1 hFc hP1 hD1
  have hK := (hK.sub (tys' := []) [] rfl).app hK1
  generalize H1 = H at hP hS ⊢
  have hP : va_P (dC, dI) vwCl [(m0, .inr (12, [.int 0, .ref l1, .ref l2, .int 0, .int 0, .int 0, .long 0])), (l1, .inr (1, [.int 1, .ref q_9, .int 1]))] H := hP
  have hD : va_D A [(m0, .inr (12, [.int 0, .ref l1, .ref l2, .int 0, .int 0, .int 0, .long 0])), (l1, .inr (1, [.int 1, .ref q_9, .int 1]))] := hD
  have hK : va_K (dC, dI) vwCl [] s := hK
  refine W.widen (k := 3) (n := 21) (Nat.le_of_ble_eq_true rfl) (Nat.le_of_ble_eq_true rfl) ?_
  obtain rfl : r_8 = 1 := hw
  refine lv_pop hx hb dX10_machine_53 rfl ?_
  refine lv_aload_n hx hb dX10_machine_54 rfl (lv_at hl 0 rfl) ?_
  refine va_get (D := (dC, dI)) (ci := 12) (v := .ref l1) (C := RX10) (T := TX10) (N := 7) hx hb hts hiX10 hown hK hP 0 rfl rfl 1 (by decide) (hts (.fieldLink RX10 10 "HaltingaleModel" "machines" "Ljava/util/ArrayList;") (by decide +kernel)) (fun _ h9 => h9) rfl dX10_machine_55 ?_
  have hPc := hP.sub (ws' := [(l1, .inr (1, [.int 1, .ref q_9, .int 1]))]) [1] rfl
  have hDc := hD.sub (ws' := [(l1, .inr (1, [.int 1, .ref q_9, .int 1]))]) [1] (by decide) rfl
  have hKc := hK.sub (tys' := []) [] rfl
  have hFc := va_free (wc := [(l1, .inr (1, [.int 1, .ref q_9, .int 1]))]) hD hS hA [1] rfl
  have hZc := ((hZ.kept hS.2.1).narrow hFc)
  refine va_calli (va_runV (As := []) (rest := []) ⟨hx, hb, hml, hown, hts⟩ (c_Jx4a65c_size_8abf5 l hnt dC dI a0 l1 1 q_9 1 H.size ) (cwV 0 hts (goodIn_of _ (by decide +kernel)) rfl rfl rfl (by decide +kernel) ⟨Nat.le_of_ble_eq_true rfl, Nat.le_of_ble_eq_true rfl⟩) ⟨fun a U g mk q => by obtain ⟨q0, q1, qP, qK, qD, qZ⟩ := q; exact ⟨q0, q1, qP, va_K.moved (u := U) (U := U.calling g mk a) (Vm.Alike.refl U.vm) qK, qD, qZ.call⟩, va_recv hKc hPc (ci := 1) (q0 := 0) rfl rfl, fun U hU hW => ⟨rfl, by rw [hU], by rw [hU]; exact hPc, va_K.moved hW.alike hKc, hDc.weaken (fun _ _ _ _ => trivial), by rw [hU]; exact hZc.warm hW⟩⟩ rfl rfl hl.1 rfl (lv_room (Nat.le_of_ble_eq_true rfl)) dX10_machine_58 ⟨Nat.le_of_ble_eq_true rfl, Nat.le_of_ble_eq_true rfl⟩) hS (fun q _ h => hFc q h) hFc (fun r_10 u t H1 locs ht hvm hw hB hz1 hk1 hS => ?_)
  obtain ⟨hP1, hK1, hD1⟩ := hB
  rw [ht] at hP1
  have hK1 := va_K.moved hvm.symm hK1
  obtain ⟨hP, hD⟩ := va_join (wr := [(m0, .inr (12, [.int 0, .ref l1, .ref l2, .int 0, .int 0, .int 0, .long 0]))]) (w1 := [(l1, .inr (1, [.int 1, .ref q_9, .int 1]))]) hP hD [1] [0] rfl rfl (by decide) (by decide) hk1 hFc hP1 hD1
  have hK := (hK.sub (tys' := []) [] rfl).app hK1
  generalize H1 = H at hP hS ⊢
  have hP : va_P (dC, dI) vwCl [(m0, .inr (12, [.int 0, .ref l1, .ref l2, .int 0, .int 0, .int 0, .long 0])), (l1, .inr (1, [.int 1, .ref q_9, .int 1]))] H := hP
  have hD : va_D A [(m0, .inr (12, [.int 0, .ref l1, .ref l2, .int 0, .int 0, .int 0, .long 0])), (l1, .inr (1, [.int 1, .ref q_9, .int 1]))] := hD
  have hK : va_K (dC, dI) vwCl [] s := hK
  refine W.widen (k := 3) (n := 21) (Nat.le_of_ble_eq_true rfl) (Nat.le_of_ble_eq_true rfl) ?_
  obtain rfl : r_10 = 1 := hw
  refine lv_iconst (v := 1) hx hb dX10_machine_61 (by decide) ?_
  refine lv_isub hx hb dX10_machine_62 ?_
  refine lv_topi (fun x_11 ex_11 => ?_)
  obtain rfl : x_11 = 0 := ex_11.trans (by decide)
  have hP9 := hP.sub (ws' := [(m0, .inr (12, [.int 0, .ref l1, .ref l2, .int 0, .int 0, .int 0, .long 0]))]) [0] rfl
  have hD9 := hD.sub (ws' := [(m0, .inr (12, [.int 0, .ref l1, .ref l2, .int 0, .int 0, .int 0, .long 0]))]) [0] (by decide) rfl
  have hK9 := hK.sub (tys' := []) [] rfl
  refine W.widen (k := 3) (n := 21) (Nat.le_of_ble_eq_true rfl) (Nat.le_of_ble_eq_true rfl) ?_
  exact W.iret (v := 0) hx hb hr (fun t ht hW => ⟨⟨0, (), rfl, rfl, ⟨by rw [ht]; exact hP9, va_K.moved hW.alike hK9, hD9⟩⟩, hS.F ht⟩) hS.2.2 dX10_machine_63

def zs_c_X8_init_4 : List Cond := .code yX8_init cX8_init 2 none :: (([.methodLink RX8 3 objectInit, .instanceMethod objectInit, .code objectInit ⟨#[0xb1]⟩ 1 none, .fieldLink RX8 9 "HaltingaleModel$Machine" "kind" "I", .fieldLink RX8 15 "HaltingaleModel$Machine" "a" "I", .fieldLink RX8 18 "HaltingaleModel$Machine" "b" "I", .fieldLink RX8 21 "HaltingaleModel$Machine" "states" "I", .classLink RX8 24 "[I", .fieldLink RX8 26 "HaltingaleModel$Machine" "cells" "[[I"] : List Cond) ++ wsX80)
set_option maxHeartbeats 4000000 in
set_option maxRecDepth 100000 in
/-- Machine(4) -/
theorem c_X8_init_4 (l : Launch) (hnt : l.stackTraces = false) (dC : Nat → ClassId) (dI : Nat → Nat → Nat) (a0 : Nat) (h0 : Nat) (sz : Nat)  : Met l yX8_init zs_c_X8_init_4 ({ frames := 1, cells := 1, slots := 8, locals := 12 }) (va_Pc [.ref h0, .int 4] (fun U => U.heap.size = sz ∧ va_P (dC, dI) vwCl [(h0, .inr (10, [.int 0, .null, .int 0, .int 0, .int 0]))] U.heap ∧ va_K (dC, dI) vwCl [] U ∧ va_D (fun _ => True) [(h0, .inr (10, [.int 0, .null, .int 0, .int 0, .int 0]))] ∧ zB a0 (va_A [(h0, .inr (10, [.int 0, .null, .int 0, .int 0, .int 0]))] sz) U U.heap)) (va_Qv (fun _ : Unit => True) (fun _ t => ∃ (u1 : Nat), va_P (dC, dI) vwCl [(h0, .inr (10, [.int 4, .ref u1, .int (-1), .int (-1), .int (-1)]))] t.heap ∧ va_K (dC, dI) vwCl [] t ∧ va_D (va_A [(h0, .inr (10, [.int 0, .null, .int 0, .int 0, .int 0]))] sz) [(h0, .inr (10, [.int 4, .ref u1, .int (-1), .int (-1), .int (-1)]))]) (va_A [(h0, .inr (10, [.int 0, .null, .int 0, .int 0, .int 0]))] sz)) 1 8 (va_A [(h0, .inr (10, [.int 0, .null, .int 0, .int 0, .int 0]))] sz) := by
  refine Met.ofW (cc := cX8_init) (maxL := 2) (ret := none) (by decide) rfl ?_
  intro p e s m args below meth c s₁ B hml hv
  obtain ⟨rfl, hsz, hP, hK, hD0, hZ⟩ := hv
  have hx := B.exec
  have hb := B.bytes
  have hr := B.returns
  have hts := atoms_spec (ws := zs_c_X8_init_4) B.pre
  have hown : s.vm.findClass RX8 = some m.cls := findClass_of_methodNamed B.named
  have hlocks := B.notSynchronized
  have hin : meth.name = "<init>" := (name_of_methodNamed B.named B.method).1
  have hiX8 : ∀ w ∈ wsX80, w ∈ zs_c_X8_init_4 := by decide +kernel
  subst hsz
  have hD := hD0.self (sz := s.heap.size)
  generalize hAe : va_A [(h0, .inr (10, [.int 0, .null, .int 0, .int 0, .int 0]))] s.heap.size = A at hD hZ ⊢
  have hA : ∀ q : Nat, s.heap.size ≤ q → A q := fun q h => by rw [← hAe]; exact Or.inr h
  have hS : va_S A s.heap s.heap [] := va_S.rf
  have hl := lv_entry ([.ref h0, .int 4]) (n := 2) (Nat.le_of_ble_eq_true rfl)
  rw [lg_entry_eq]
  generalize (lg_sl ([.ref h0, .int 4]) ++ List.replicate (2 - (lg_sl ([.ref h0, .int 4])).length) Slot.unset).toArray = ls at hl ⊢
  have hl : lv_has ls 2 [(0, .ref h0), (1, .int 4)] := hl
  refine lv_aload_n hx hb dX8_init_0 rfl (lv_at hl 0 rfl) ?_
  refine W.objInit hx hb hown (hts (.methodLink RX8 3 objectInit) (by decide +kernel)) (hts (.instanceMethod objectInit) (by decide +kernel)) (hts (.code objectInit ⟨#[0xb1]⟩ 1 none) (by decide +kernel)) rfl (by rw [hml]; exact hl.1) rfl dX8_init_1 (Nat.le_of_ble_eq_true rfl) (Nat.le_of_ble_eq_true rfl) ?_
  refine W.eq (g2 := F0 m 4 ls []) rfl ?_
  refine lv_aload_n hx hb dX8_init_4 rfl (lv_at hl 0 rfl) ?_
  refine lv_iconst (v := (-1)) hx hb dX8_init_5 (by decide) ?_
  refine va_put (D := (dC, dI)) (ci := 10) (v := .int (-1)) (ty := .int) (C := RX8) (T := TX8) (N := 5) hx hb hts hiX8 tyX8 tyX8_ok nmX8 hown hK hP hD hS 0 rfl rfl 2 (by decide) (hts (.fieldLink RX8 9 "HaltingaleModel$Machine" "kind" "I") (by decide +kernel)) (fun _ h9 => h9) rfl (by decide +kernel) rfl rfl (Nat.le_of_ble_eq_true rfl) dX8_init_6 (fun H locs hP hD hS => ?_)
  have hP : va_P (dC, dI) vwCl [(h0, .inr (10, [.int 0, .null, .int (-1), .int 0, .int 0]))] H := hP
  have hD : va_D A [(h0, .inr (10, [.int 0, .null, .int (-1), .int 0, .int 0]))] := hD
  refine lv_aload_n hx hb dX8_init_9 rfl (lv_at hl 0 rfl) ?_
  refine lv_iconst (v := (-1)) hx hb dX8_init_10 (by decide) ?_
  refine va_put (D := (dC, dI)) (ci := 10) (v := .int (-1)) (ty := .int) (C := RX8) (T := TX8) (N := 5) hx hb hts hiX8 tyX8 tyX8_ok nmX8 hown hK hP hD hS 0 rfl rfl 3 (by decide) (hts (.fieldLink RX8 15 "HaltingaleModel$Machine" "a" "I") (by decide +kernel)) (fun _ h9 => h9) rfl (by decide +kernel) rfl rfl (Nat.le_of_ble_eq_true rfl) dX8_init_11 (fun H locs hP hD hS => ?_)
  have hP : va_P (dC, dI) vwCl [(h0, .inr (10, [.int 0, .null, .int (-1), .int (-1), .int 0]))] H := hP
  have hD : va_D A [(h0, .inr (10, [.int 0, .null, .int (-1), .int (-1), .int 0]))] := hD
  refine lv_aload_n hx hb dX8_init_14 rfl (lv_at hl 0 rfl) ?_
  refine lv_iconst (v := (-1)) hx hb dX8_init_15 (by decide) ?_
  refine va_put (D := (dC, dI)) (ci := 10) (v := .int (-1)) (ty := .int) (C := RX8) (T := TX8) (N := 5) hx hb hts hiX8 tyX8 tyX8_ok nmX8 hown hK hP hD hS 0 rfl rfl 4 (by decide) (hts (.fieldLink RX8 18 "HaltingaleModel$Machine" "b" "I") (by decide +kernel)) (fun _ h9 => h9) rfl (by decide +kernel) rfl rfl (Nat.le_of_ble_eq_true rfl) dX8_init_16 (fun H locs hP hD hS => ?_)
  have hP : va_P (dC, dI) vwCl [(h0, .inr (10, [.int 0, .null, .int (-1), .int (-1), .int (-1)]))] H := hP
  have hD : va_D A [(h0, .inr (10, [.int 0, .null, .int (-1), .int (-1), .int (-1)]))] := hD
  refine lv_aload_n hx hb dX8_init_19 rfl (lv_at hl 0 rfl) ?_
  refine lv_iload_n hx hb dX8_init_20 rfl (lv_at hl 1 rfl) ?_
  refine va_putF (D := (dC, dI)) (ci := 10) (v := .int 4) (ty := .int) (C := RX8) (T := TX8) (N := 5) hx hb hts hiX8 tyX8 tyX8_ok nmX8 hown hK hP hD hS 0 rfl rfl 0 (by decide) (hts (.fieldLink RX8 21 "HaltingaleModel$Machine" "states" "I") (by decide +kernel)) (fun _ h9 => h9) rfl hin rfl (by decide +kernel) rfl rfl (Nat.le_of_ble_eq_true rfl) dX8_init_21 (fun H locs hP hD hS => ?_)
  have hP : va_P (dC, dI) vwCl [(h0, .inr (10, [.int 4, .null, .int (-1), .int (-1), .int (-1)]))] H := hP
  have hD : va_D A [(h0, .inr (10, [.int 4, .null, .int (-1), .int (-1), .int (-1)]))] := hD
  refine lv_aload_n hx hb dX8_init_24 rfl (lv_at hl 0 rfl) ?_
  refine lv_iconst (v := 2) hx hb dX8_init_25 (by decide) ?_
  refine lv_iload_n hx hb dX8_init_26 rfl (lv_at hl 1 rfl) ?_
  refine lv_imul hx hb dX8_init_27 ?_
  refine lv_topi (fun x_1 ex_1 => ?_)
  obtain rfl : x_1 = 8 := ex_1.trans (by decide)
  refine zz_newA (N' := 8) hx hb hown (hts (.classLink RX8 24 "[I") (by decide +kernel)) hZ.aoI hP hD hS (by decide) (by decide) (Nat.le_of_ble_eq_true rfl) (Nat.le_of_ble_eq_true rfl) (Nat.le_of_ble_eq_true rfl) dX8_init_28 (fun q_2 H hP hD hS => ?_)
  refine W.widen (k := 1) (n := 8) (Nat.le_of_ble_eq_true rfl) (Nat.le_of_ble_eq_true rfl) ?_
  refine va_putF (D := (dC, dI)) (ci := 10) (v := .ref q_2) (ty := .array (.array .int)) (C := RX8) (T := TX8) (N := 5) hx hb hts hiX8 tyX8 tyX8_ok nmX8 hown hK hP hD hS 0 rfl rfl 1 (by decide) (hts (.fieldLink RX8 26 "HaltingaleModel$Machine" "cells" "[[I") (by decide +kernel)) (fun _ h9 => h9) rfl hin rfl (by decide +kernel) rfl rfl (Nat.le_of_ble_eq_true rfl) dX8_init_31 (fun H locs hP hD hS => ?_)
  have hP : va_P (dC, dI) vwCl [(h0, .inr (10, [.int 4, .ref q_2, .int (-1), .int (-1), .int (-1)]))] H := hP
  have hD : va_D A [(h0, .inr (10, [.int 4, .ref q_2, .int (-1), .int (-1), .int (-1)]))] := hD
  have hP9 := hP.sub (ws' := [(h0, .inr (10, [.int 4, .ref q_2, .int (-1), .int (-1), .int (-1)]))]) [0] rfl
  have hD9 := hD.sub (ws' := [(h0, .inr (10, [.int 4, .ref q_2, .int (-1), .int (-1), .int (-1)]))]) [0] (by decide) rfl
  have hK9 := hK.sub (tys' := []) [] rfl
  refine W.widen (k := 1) (n := 8) (Nat.le_of_ble_eq_true rfl) (Nat.le_of_ble_eq_true rfl) ?_
  exact W.vret hx hb hr (fun t ht hW => ⟨⟨(), rfl, trivial, ⟨q_2, by rw [ht]; exact hP9, va_K.moved hW.alike hK9, hD9⟩⟩, hS.F ht⟩) hS.2.2 dX8_init_34

def zs_c_X10_machine_4 : List Cond := .code yX10_machine cX10_machine 2 (some .int) :: (([.fieldLink RX10 19 "HaltingaleModel" "thrown" "I", .code yX10_is cX10_is 3 (some .boolean), .methodLink RX10 27 yX10_is, .static yX10_is, .initialized RX10, .fieldLink RX10 10 "HaltingaleModel" "machines" "Ljava/util/ArrayList;", .code yJx4a65c_size_8abf5 cJx4a65c_size_8abf5 1 (some .int), .fieldLink RJx4a65c 48 "java/util/ArrayList" "size" "I", .methodLink RX10 23 yJx4a65c_size_8abf5, .instanceMethod yJx4a65c_size_8abf5, .initialized RJx4a65c, .selects RJx4a65c yJx4a65c_size_8abf5 yJx4a65c_size_8abf5, .classLink RX10 35 RX8, .instantiable RX8 5, .initialized RX8, .code yX8_init cX8_init 2 none, .methodLink RX8 3 objectInit, .instanceMethod objectInit, .code objectInit ⟨#[0xb1]⟩ 1 none, .fieldLink RX8 9 "HaltingaleModel$Machine" "kind" "I", .fieldLink RX8 15 "HaltingaleModel$Machine" "a" "I", .fieldLink RX8 18 "HaltingaleModel$Machine" "b" "I", .fieldLink RX8 21 "HaltingaleModel$Machine" "states" "I", .classLink RX8 24 "[I", .fieldLink RX8 26 "HaltingaleModel$Machine" "cells" "[[I", .methodLink RX10 37 yX8_init, .instanceMethod yX8_init, .code yJx4a65c_add_9ea2d cJx4a65c_add_9ea2d 2 (some .boolean), .sameField "java/util/ArrayList" "java/util/AbstractList" "modCount" "I", .fieldLink RJx4a65c 63 "java/util/ArrayList" "modCount" "I", .fieldLink RJx4a65c 9 "java/util/ArrayList" "elementData" "[Ljava/lang/Object;", .code yJx4a65c_add_72be8 cJx4a65c_add_72be8 4 none, .code yJx4a65c_grow_d5877 cJx4a65c_grow_d5877 1 (some (.array (.object "java/lang/Object"))), .code yJx4a65c_grow_92f84 cJx4a65c_grow_92f84 4 (some (.array (.object "java/lang/Object"))), .fieldLink RJx4a65c 39 "java/util/ArrayList" "DEFAULTCAPACITY_EMPTY_ELEMENTDATA" "[Ljava/lang/Object;", .methodLink RJx4a65c 79 Lib.Math.max.name, .static Lib.Math.max.name, .initialized "java/lang/Math", .code Lib.Math.max.name Lib.Math.max.code 2 (some .int), .classLink RJx4a65c 7 "java/lang/Object", .methodLink RJx4a65c 69 yJx4a65c_grow_92f84, .instanceMethod yJx4a65c_grow_92f84, .selects RJx4a65c yJx4a65c_grow_92f84 yJx4a65c_grow_92f84, .methodLink RJx4a65c 129 yJx4a65c_grow_d5877, .instanceMethod yJx4a65c_grow_d5877, .selects RJx4a65c yJx4a65c_grow_d5877 yJx4a65c_grow_d5877, .methodLink RJx4a65c 131 yJx4a65c_add_72be8, .instanceMethod yJx4a65c_add_72be8, .selects RJx4a65c yJx4a65c_add_72be8 yJx4a65c_add_72be8, .methodLink RX10 40 yJx4a65c_add_9ea2d, .instanceMethod yJx4a65c_add_9ea2d, .selects RJx4a65c yJx4a65c_add_9ea2d yJx4a65c_add_9ea2d] : List Cond) ++ wsX100 ++ wsJx4a65c0 ++ wsX80)
set_option maxHeartbeats 4000000 in
set_option maxRecDepth 100000 in
/-- machine(4), the first -/
theorem c_X10_machine_4 (l : Launch) (hnt : l.stackTraces = false) (dC : Nat → ClassId) (dI : Nat → Nat → Nat) (a0 : Nat) (m0 : Nat) (l1 : Nat) (l2 : Nat) (sz : Nat)  : Met l yX10_machine zs_c_X10_machine_4 ({ frames := 5, cells := 3, slots := 23, locals := 101 }) (va_Pc [.ref m0, .int 4] (fun U => U.heap.size = sz ∧ va_P (dC, dI) vwCl [(m0, .inr (12, [.int 0, .ref l1, .ref l2, .int 0, .int 0, .int 0, .long 0])), (l1, .inr (1, [.int 0, .ref a0, .int 0]))] U.heap ∧ va_K (dC, dI) vwCl [] U ∧ va_D (fun _ => True) [(m0, .inr (12, [.int 0, .ref l1, .ref l2, .int 0, .int 0, .int 0, .long 0])), (l1, .inr (1, [.int 0, .ref a0, .int 0]))] ∧ zB a0 (va_A [(m0, .inr (12, [.int 0, .ref l1, .ref l2, .int 0, .int 0, .int 0, .long 0])), (l1, .inr (1, [.int 0, .ref a0, .int 0]))] sz) U U.heap)) (va_Qi (fun (r : Int32) (_ : Unit) => r = 0) (fun _ t => va_P (dC, dI) vwCl [(m0, .inr (12, [.int 0, .ref l1, .ref l2, .int 0, .int 0, .int 0, .long 0]))] t.heap ∧ va_K (dC, dI) vwCl [] t ∧ va_D (va_A [(m0, .inr (12, [.int 0, .ref l1, .ref l2, .int 0, .int 0, .int 0, .long 0])), (l1, .inr (1, [.int 0, .ref a0, .int 0]))] sz) [(m0, .inr (12, [.int 0, .ref l1, .ref l2, .int 0, .int 0, .int 0, .long 0]))]) (va_A [(m0, .inr (12, [.int 0, .ref l1, .ref l2, .int 0, .int 0, .int 0, .long 0])), (l1, .inr (1, [.int 0, .ref a0, .int 0]))] sz)) 3 23 (va_A [(m0, .inr (12, [.int 0, .ref l1, .ref l2, .int 0, .int 0, .int 0, .long 0])), (l1, .inr (1, [.int 0, .ref a0, .int 0]))] sz) := by
  refine Met.ofW (cc := cX10_machine) (maxL := 2) (ret := (some .int)) (by decide) rfl ?_
  intro p e s m args below meth c s₁ B hml hv
  obtain ⟨rfl, hsz, hP, hK, hD0, hZ⟩ := hv
  have hx := B.exec
  have hb := B.bytes
  have hr := B.returns
  have hts := atoms_spec (ws := zs_c_X10_machine_4) B.pre
  have hown : s.vm.findClass RX10 = some m.cls := findClass_of_methodNamed B.named
  have hlocks := B.notSynchronized
  have hiX10 : ∀ w ∈ wsX100, w ∈ zs_c_X10_machine_4 := by decide +kernel
  have hiX8 : ∀ w ∈ wsX80, w ∈ zs_c_X10_machine_4 := by decide +kernel
  subst hsz
  have hD := hD0.self (sz := s.heap.size)
  generalize hAe : va_A [(m0, .inr (12, [.int 0, .ref l1, .ref l2, .int 0, .int 0, .int 0, .long 0])), (l1, .inr (1, [.int 0, .ref a0, .int 0]))] s.heap.size = A at hD hZ ⊢
  have hA : ∀ q : Nat, s.heap.size ≤ q → A q := fun q h => by rw [← hAe]; exact Or.inr h
  have hS : va_S A s.heap s.heap [] := va_S.rf
  have hl := lv_entry ([.ref m0, .int 4]) (n := 2) (Nat.le_of_ble_eq_true rfl)
  rw [lg_entry_eq]
  generalize (lg_sl ([.ref m0, .int 4]) ++ List.replicate (2 - (lg_sl ([.ref m0, .int 4])).length) Slot.unset).toArray = ls at hl ⊢
  have hl : lv_has ls 2 [(0, .ref m0), (1, .int 4)] := hl
  refine lv_aload_n hx hb dX10_machine_0 rfl (lv_at hl 0 rfl) ?_
  refine lv_iconst (v := 0) hx hb dX10_machine_1 (by decide) ?_
  refine va_put (D := (dC, dI)) (ci := 12) (v := .int 0) (ty := .int) (C := RX10) (T := TX10) (N := 7) hx hb hts hiX10 tyX10 tyX10_ok nmX10 hown hK hP hD hS 0 rfl rfl 0 (by decide) (hts (.fieldLink RX10 19 "HaltingaleModel" "thrown" "I") (by decide +kernel)) (fun _ h9 => h9) rfl (by decide +kernel) rfl rfl (Nat.le_of_ble_eq_true rfl) dX10_machine_2 (fun H locs hP hD hS => ?_)
  have hP : va_P (dC, dI) vwCl [(m0, .inr (12, [.int 0, .ref l1, .ref l2, .int 0, .int 0, .int 0, .long 0])), (l1, .inr (1, [.int 0, .ref a0, .int 0]))] H := hP
  have hD : va_D A [(m0, .inr (12, [.int 0, .ref l1, .ref l2, .int 0, .int 0, .int 0, .long 0])), (l1, .inr (1, [.int 0, .ref a0, .int 0]))] := hD
  refine lv_iload_n hx hb dX10_machine_5 rfl (lv_at hl 1 rfl) ?_
  refine lv_iconst (v := 2) hx hb dX10_machine_6 (by decide) ?_
  refine lv_iconst (v := 4) hx hb dX10_machine_7 (by decide) ?_
  have hPc := hP.sub (ws' := []) [] rfl
  have hDc := hD.sub (ws' := []) [] (by decide) rfl
  have hKc := hK.sub (tys' := []) [] rfl
  have hFc := va_free (wc := []) hD hS hA [] rfl
  have hZc := ((hZ.kept hS.2.1).narrow hFc)
  refine va_calli (va_runS (As := [.int 4, .int 2, .int 4]) (rest := []) ⟨hx, hb, hml, hown, hts⟩ (c_X10_is l hnt dC dI a0 4 2 4 H.size ) (va_cwS 3 hts (goodIn_of _ (by decide +kernel)) rfl rfl rfl (by decide +kernel) ⟨Nat.le_of_ble_eq_true rfl, Nat.le_of_ble_eq_true rfl⟩) ⟨fun a U g mk q => by obtain ⟨q0, q1, qP, qK, qD, qZ⟩ := q; exact ⟨q0, q1, qP, va_K.moved (u := U) (U := U.calling g mk a) (Vm.Alike.refl U.vm) qK, qD, qZ.call⟩, fun U hU hW => ⟨rfl, by rw [hU], by rw [hU]; exact hPc, va_K.moved hW.alike hKc, hDc.weaken (fun _ _ _ _ => trivial), by rw [hU]; exact hZc.warm hW⟩⟩ rfl rfl hl.1 rfl (lv_room (Nat.le_of_ble_eq_true rfl)) dX10_machine_8 ⟨Nat.le_of_ble_eq_true rfl, Nat.le_of_ble_eq_true rfl⟩) hS (fun q _ h => hFc q h) hFc (fun r_1 u t H1 locs ht hvm hw hB hz1 hk1 hS => ?_)
  obtain ⟨hP1, hK1, hD1⟩ := hB
  rw [ht] at hP1
  have hK1 := va_K.moved hvm.symm hK1
  obtain ⟨hP, hD⟩ := va_join (wr := [(m0, .inr (12, [.int 0, .ref l1, .ref l2, .int 0, .int 0, .int 0, .long 0])), (l1, .inr (1, [.int 0, .ref a0, .int 0]))]) (w1 := []) hP hD [] [0, 1] rfl rfl (by decide) (by decide) hk1 hFc hP1 hD1
  have hK := (hK.sub (tys' := []) [] rfl).app hK1
  generalize H1 = H at hP hS ⊢
  have hP : va_P (dC, dI) vwCl [(m0, .inr (12, [.int 0, .ref l1, .ref l2, .int 0, .int 0, .int 0, .long 0])), (l1, .inr (1, [.int 0, .ref a0, .int 0]))] H := hP
  have hD : va_D A [(m0, .inr (12, [.int 0, .ref l1, .ref l2, .int 0, .int 0, .int 0, .long 0])), (l1, .inr (1, [.int 0, .ref a0, .int 0]))] := hD
  have hK : va_K (dC, dI) vwCl [] s := hK
  refine W.widen (k := 0) (n := 0) (Nat.le_of_ble_eq_true rfl) (Nat.le_of_ble_eq_true rfl) ?_
  obtain rfl : r_1 = 1 := hw.trans (by decide)
  refine lv_if_ne (tgt := 20) hx hb dX10_machine_11 (by decide) (fun c_2 => ?_) (fun c_2 => ?_)
  rotate_left
  · (first | exact absurd c_2 (by decide) | exact absurd (by decide) c_2)
  refine lv_aload_n hx hb dX10_machine_20 rfl (lv_at hl 0 rfl) ?_
  refine va_get (D := (dC, dI)) (ci := 12) (v := .ref l1) (C := RX10) (T := TX10) (N := 7) hx hb hts hiX10 hown hK hP 0 rfl rfl 1 (by decide) (hts (.fieldLink RX10 10 "HaltingaleModel" "machines" "Ljava/util/ArrayList;") (by decide +kernel)) (fun _ h9 => h9) rfl dX10_machine_21 ?_
  have hPc := hP.sub (ws' := [(l1, .inr (1, [.int 0, .ref a0, .int 0]))]) [1] rfl
  have hDc := hD.sub (ws' := [(l1, .inr (1, [.int 0, .ref a0, .int 0]))]) [1] (by decide) rfl
  have hKc := hK.sub (tys' := []) [] rfl
  have hFc := va_free (wc := [(l1, .inr (1, [.int 0, .ref a0, .int 0]))]) hD hS hA [1] rfl
  have hZc := ((hZ.kept hS.2.1).narrow hFc)
  refine va_calli (va_runV (As := []) (rest := []) ⟨hx, hb, hml, hown, hts⟩ (c_Jx4a65c_size_8abf5 l hnt dC dI a0 l1 0 a0 0 H.size ) (cwV 0 hts (goodIn_of _ (by decide +kernel)) rfl rfl rfl (by decide +kernel) ⟨Nat.le_of_ble_eq_true rfl, Nat.le_of_ble_eq_true rfl⟩) ⟨fun a U g mk q => by obtain ⟨q0, q1, qP, qK, qD, qZ⟩ := q; exact ⟨q0, q1, qP, va_K.moved (u := U) (U := U.calling g mk a) (Vm.Alike.refl U.vm) qK, qD, qZ.call⟩, va_recv hKc hPc (ci := 1) (q0 := 0) rfl rfl, fun U hU hW => ⟨rfl, by rw [hU], by rw [hU]; exact hPc, va_K.moved hW.alike hKc, hDc.weaken (fun _ _ _ _ => trivial), by rw [hU]; exact hZc.warm hW⟩⟩ rfl rfl hl.1 rfl (lv_room (Nat.le_of_ble_eq_true rfl)) dX10_machine_24 ⟨Nat.le_of_ble_eq_true rfl, Nat.le_of_ble_eq_true rfl⟩) hS (fun q _ h => hFc q h) hFc (fun r_3 u t H1 locs ht hvm hw hB hz1 hk1 hS => ?_)
  obtain ⟨hP1, hK1, hD1⟩ := hB
  rw [ht] at hP1
  have hK1 := va_K.moved hvm.symm hK1
  obtain ⟨hP, hD⟩ := va_join (wr := [(m0, .inr (12, [.int 0, .ref l1, .ref l2, .int 0, .int 0, .int 0, .long 0]))]) (w1 := [(l1, .inr (1, [.int 0, .ref a0, .int 0]))]) hP hD [1] [0] rfl rfl (by decide) (by decide) hk1 hFc hP1 hD1
  have hK := (hK.sub (tys' := []) [] rfl).app hK1
  generalize H1 = H at hP hS ⊢
  have hP : va_P (dC, dI) vwCl [(m0, .inr (12, [.int 0, .ref l1, .ref l2, .int 0, .int 0, .int 0, .long 0])), (l1, .inr (1, [.int 0, .ref a0, .int 0]))] H := hP
  have hD : va_D A [(m0, .inr (12, [.int 0, .ref l1, .ref l2, .int 0, .int 0, .int 0, .long 0])), (l1, .inr (1, [.int 0, .ref a0, .int 0]))] := hD
  have hK : va_K (dC, dI) vwCl [] s := hK
  refine W.widen (k := 0) (n := 0) (Nat.le_of_ble_eq_true rfl) (Nat.le_of_ble_eq_true rfl) ?_
  obtain rfl : r_3 = 0 := hw
  refine lv_bipush (v := 12) hx hb dX10_machine_27 (by decide) ?_
  refine lv_icmp_ne (tgt := 38) hx hb dX10_machine_29 (by decide) (fun c_4 => ?_) (fun c_4 => ?_)
  rotate_left
  · (first | exact absurd c_4 (by decide) | exact absurd (by decide) c_4)
  refine lv_aload_n hx hb dX10_machine_38 rfl (lv_at hl 0 rfl) ?_
  refine va_get (D := (dC, dI)) (ci := 12) (v := .ref l1) (C := RX10) (T := TX10) (N := 7) hx hb hts hiX10 hown hK hP 0 rfl rfl 1 (by decide) (hts (.fieldLink RX10 10 "HaltingaleModel" "machines" "Ljava/util/ArrayList;") (by decide +kernel)) (fun _ h9 => h9) rfl dX10_machine_39 ?_
  refine va_new (ci := 10) (fs := [.int 0, .null, .int 0, .int 0, .int 0]) (C := RX8) (T := TX8) (N := 5) hx hb hts hiX8 tyX8 tyX8_ok hown (hts (.classLink RX10 35 RX8) (by decide +kernel)) (hts (.instantiable RX8 5) (by decide +kernel)) (hts (.initialized RX8) (by decide +kernel)) hK hP hD hS hA rfl (fun j hj => by rcases (show j = 0 ∨ j = 1 ∨ j = 2 ∨ j = 3 ∨ j = 4 by omega) with rfl | rfl | rfl | rfl | rfl <;> rfl) (Nat.le_of_ble_eq_true rfl) (Nat.le_of_ble_eq_true rfl) dX10_machine_42 (fun q_5 H hP hD hS => ?_)
  have hP : va_P (dC, dI) vwCl [(m0, .inr (12, [.int 0, .ref l1, .ref l2, .int 0, .int 0, .int 0, .long 0])), (l1, .inr (1, [.int 0, .ref a0, .int 0])), (q_5, .inr (10, [.int 0, .null, .int 0, .int 0, .int 0]))] H := hP
  have hD : va_D A [(m0, .inr (12, [.int 0, .ref l1, .ref l2, .int 0, .int 0, .int 0, .long 0])), (l1, .inr (1, [.int 0, .ref a0, .int 0])), (q_5, .inr (10, [.int 0, .null, .int 0, .int 0, .int 0]))] := hD
  refine W.widen (k := 1) (n := 5) (Nat.le_of_ble_eq_true rfl) (Nat.le_of_ble_eq_true rfl) ?_
  refine lv_dup hx hb dX10_machine_45 rfl ?_
  refine lv_iload_n hx hb dX10_machine_46 rfl (lv_at hl 1 rfl) ?_
  have hPc := hP.sub (ws' := [(q_5, .inr (10, [.int 0, .null, .int 0, .int 0, .int 0]))]) [2] rfl
  have hDc := hD.sub (ws' := [(q_5, .inr (10, [.int 0, .null, .int 0, .int 0, .int 0]))]) [2] (by decide) rfl
  have hKc := hK.sub (tys' := []) [] rfl
  have hFc := va_free (wc := [(q_5, .inr (10, [.int 0, .null, .int 0, .int 0, .int 0]))]) hD hS hA [2] rfl
  have hZc := ((hZ.kept hS.2.1).narrow hFc)
  refine va_callv (va_runI (As := [.int 4]) (rest := [.ref q_5, .ref l1]) ⟨hx, hb, hml, hown, hts⟩ (c_X8_init_4 l hnt dC dI a0 q_5 H.size ) (cwI 1 hts (goodIn_of _ (by decide +kernel)) rfl rfl rfl (hts (.initialized RX8) (by decide +kernel)) (hts (.methodLink RX10 37 yX8_init) (by decide +kernel)) (hts (.instanceMethod yX8_init) (by decide +kernel)) rfl (by decide +kernel) ⟨Nat.le_of_ble_eq_true rfl, Nat.le_of_ble_eq_true rfl⟩) ⟨fun a U g mk q => by obtain ⟨q0, q1, qP, qK, qD, qZ⟩ := q; exact ⟨q0, q1, qP, va_K.moved (u := U) (U := U.calling g mk a) (Vm.Alike.refl U.vm) qK, qD, qZ.call⟩, fun U hU hW => ⟨rfl, by rw [hU], by rw [hU]; exact hPc, va_K.moved hW.alike hKc, hDc.weaken (fun _ _ _ _ => trivial), by rw [hU]; exact hZc.warm hW⟩⟩ rfl rfl hl.1 rfl (lv_room (Nat.le_of_ble_eq_true rfl)) dX10_machine_47 ⟨Nat.le_of_ble_eq_true rfl, Nat.le_of_ble_eq_true rfl⟩) hS (fun q _ h => hFc q h) hFc (fun u t H1 locs ht hvm hw hB hz1 hk1 hS => ?_)
  obtain ⟨u1_7, hP1, hK1, hD1⟩ := hB
  rw [ht] at hP1
  have hK1 := va_K.moved hvm.symm hK1
  obtain ⟨hP, hD⟩ := va_join (wr := [(m0, .inr (12, [.int 0, .ref l1, .ref l2, .int 0, .int 0, .int 0, .long 0])), (l1, .inr (1, [.int 0, .ref a0, .int 0]))]) (w1 := [(q_5, .inr (10, [.int 4, .ref u1_7, .int (-1), .int (-1), .int (-1)]))]) hP hD [2] [0, 1] rfl rfl (by decide) (by decide) hk1 hFc hP1 hD1
  have hK := (hK.sub (tys' := []) [] rfl).app hK1
  generalize H1 = H at hP hS ⊢
  have hP : va_P (dC, dI) vwCl [(m0, .inr (12, [.int 0, .ref l1, .ref l2, .int 0, .int 0, .int 0, .long 0])), (l1, .inr (1, [.int 0, .ref a0, .int 0])), (q_5, .inr (10, [.int 4, .ref u1_7, .int (-1), .int (-1), .int (-1)]))] H := hP
  have hD : va_D A [(m0, .inr (12, [.int 0, .ref l1, .ref l2, .int 0, .int 0, .int 0, .long 0])), (l1, .inr (1, [.int 0, .ref a0, .int 0])), (q_5, .inr (10, [.int 4, .ref u1_7, .int (-1), .int (-1), .int (-1)]))] := hD
  have hK : va_K (dC, dI) vwCl [] s := hK
  refine W.widen (k := 2) (n := 13) (Nat.le_of_ble_eq_true rfl) (Nat.le_of_ble_eq_true rfl) ?_
  have hPc := hP.sub (ws' := [(l1, .inr (1, [.int 0, .ref a0, .int 0])), (q_5, .inr (10, [.int 4, .ref u1_7, .int (-1), .int (-1), .int (-1)]))]) [1, 2] rfl
  have hDc := hD.sub (ws' := [(l1, .inr (1, [.int 0, .ref a0, .int 0])), (q_5, .inr (10, [.int 4, .ref u1_7, .int (-1), .int (-1), .int (-1)]))]) [1, 2] (by decide) rfl
  have hKc := hK.sub (tys' := []) [] rfl
  have hFc := va_free (wc := [(l1, .inr (1, [.int 0, .ref a0, .int 0])), (q_5, .inr (10, [.int 4, .ref u1_7, .int (-1), .int (-1), .int (-1)]))]) hD hS hA [1, 2] rfl
  have hZc := ((hZ.kept hS.2.1).narrow hFc)
  refine va_calli (va_runV (As := [.ref q_5]) (rest := []) ⟨hx, hb, hml, hown, hts⟩ (c_Jx4a65c_add_9ea2d_M l hnt dC dI a0 l1 q_5 4 u1_7 ((-1)) ((-1)) ((-1)) H.size ) (cwV 1 hts (goodIn_of _ (by decide +kernel)) rfl rfl rfl (by decide +kernel) ⟨Nat.le_of_ble_eq_true rfl, Nat.le_of_ble_eq_true rfl⟩) ⟨fun a U g mk q => by obtain ⟨q0, q1, qP, qK, qD, qZ⟩ := q; exact ⟨q0, q1, qP, va_K.moved (u := U) (U := U.calling g mk a) (Vm.Alike.refl U.vm) qK, qD, qZ.call⟩, va_recv hKc hPc (ci := 1) (q0 := 0) rfl rfl, fun U hU hW => ⟨rfl, by rw [hU], by rw [hU]; exact hPc, va_K.moved hW.alike hKc, hDc.weaken (fun _ _ _ _ => trivial), by rw [hU]; exact hZc.warm hW⟩⟩ rfl rfl hl.1 rfl (lv_room (Nat.le_of_ble_eq_true rfl)) dX10_machine_50 ⟨Nat.le_of_ble_eq_true rfl, Nat.le_of_ble_eq_true rfl⟩) hS (fun q _ h => hFc q h) hFc (fun r_8 u t H1 locs ht hvm hw hB hz1 hk1 hS => ?_)
  obtain ⟨q_9, hP1, hK1, hD1⟩ := hB
  rw [ht] at hP1
  have hK1 := va_K.moved hvm.symm hK1
  obtain ⟨hP, hD⟩ := va_join (wr := [(m0, .inr (12, [.int 0, .ref l1, .ref l2, .int 0, .int 0, .int 0, .long 0]))]) (w1 := [(l1, .inr (1, [.int 1, .ref q_9, .int 1]))]) hP hD [1, 2] [0] rfl rfl (by decide) (by decide) hk1 hFc hP1 hD1
  have hK := (hK.sub (tys' := []) [] rfl).app hK1
  generalize H1 = H at hP hS ⊢
  have hP : va_P (dC, dI) vwCl [(m0, .inr (12, [.int 0, .ref l1, .ref l2, .int 0, .int 0, .int 0, .long 0])), (l1, .inr (1, [.int 1, .ref q_9, .int 1]))] H := hP
  have hD : va_D A [(m0, .inr (12, [.int 0, .ref l1, .ref l2, .int 0, .int 0, .int 0, .long 0])), (l1, .inr (1, [.int 1, .ref q_9, .int 1]))] := hD
  have hK : va_K (dC, dI) vwCl [] s := hK
  refine W.widen (k := 3) (n := 23) (Nat.le_of_ble_eq_true rfl) (Nat.le_of_ble_eq_true rfl) ?_
  obtain rfl : r_8 = 1 := hw
  refine lv_pop hx hb dX10_machine_53 rfl ?_
  refine lv_aload_n hx hb dX10_machine_54 rfl (lv_at hl 0 rfl) ?_
  refine va_get (D := (dC, dI)) (ci := 12) (v := .ref l1) (C := RX10) (T := TX10) (N := 7) hx hb hts hiX10 hown hK hP 0 rfl rfl 1 (by decide) (hts (.fieldLink RX10 10 "HaltingaleModel" "machines" "Ljava/util/ArrayList;") (by decide +kernel)) (fun _ h9 => h9) rfl dX10_machine_55 ?_
  have hPc := hP.sub (ws' := [(l1, .inr (1, [.int 1, .ref q_9, .int 1]))]) [1] rfl
  have hDc := hD.sub (ws' := [(l1, .inr (1, [.int 1, .ref q_9, .int 1]))]) [1] (by decide) rfl
  have hKc := hK.sub (tys' := []) [] rfl
  have hFc := va_free (wc := [(l1, .inr (1, [.int 1, .ref q_9, .int 1]))]) hD hS hA [1] rfl
  have hZc := ((hZ.kept hS.2.1).narrow hFc)
  refine va_calli (va_runV (As := []) (rest := []) ⟨hx, hb, hml, hown, hts⟩ (c_Jx4a65c_size_8abf5 l hnt dC dI a0 l1 1 q_9 1 H.size ) (cwV 0 hts (goodIn_of _ (by decide +kernel)) rfl rfl rfl (by decide +kernel) ⟨Nat.le_of_ble_eq_true rfl, Nat.le_of_ble_eq_true rfl⟩) ⟨fun a U g mk q => by obtain ⟨q0, q1, qP, qK, qD, qZ⟩ := q; exact ⟨q0, q1, qP, va_K.moved (u := U) (U := U.calling g mk a) (Vm.Alike.refl U.vm) qK, qD, qZ.call⟩, va_recv hKc hPc (ci := 1) (q0 := 0) rfl rfl, fun U hU hW => ⟨rfl, by rw [hU], by rw [hU]; exact hPc, va_K.moved hW.alike hKc, hDc.weaken (fun _ _ _ _ => trivial), by rw [hU]; exact hZc.warm hW⟩⟩ rfl rfl hl.1 rfl (lv_room (Nat.le_of_ble_eq_true rfl)) dX10_machine_58 ⟨Nat.le_of_ble_eq_true rfl, Nat.le_of_ble_eq_true rfl⟩) hS (fun q _ h => hFc q h) hFc (fun r_10 u t H1 locs ht hvm hw hB hz1 hk1 hS => ?_)
  obtain ⟨hP1, hK1, hD1⟩ := hB
  rw [ht] at hP1
  have hK1 := va_K.moved hvm.symm hK1
  obtain ⟨hP, hD⟩ := va_join (wr := [(m0, .inr (12, [.int 0, .ref l1, .ref l2, .int 0, .int 0, .int 0, .long 0]))]) (w1 := [(l1, .inr (1, [.int 1, .ref q_9, .int 1]))]) hP hD [1] [0] rfl rfl (by decide) (by decide) hk1 hFc hP1 hD1
  have hK := (hK.sub (tys' := []) [] rfl).app hK1
  generalize H1 = H at hP hS ⊢
  have hP : va_P (dC, dI) vwCl [(m0, .inr (12, [.int 0, .ref l1, .ref l2, .int 0, .int 0, .int 0, .long 0])), (l1, .inr (1, [.int 1, .ref q_9, .int 1]))] H := hP
  have hD : va_D A [(m0, .inr (12, [.int 0, .ref l1, .ref l2, .int 0, .int 0, .int 0, .long 0])), (l1, .inr (1, [.int 1, .ref q_9, .int 1]))] := hD
  have hK : va_K (dC, dI) vwCl [] s := hK
  refine W.widen (k := 3) (n := 23) (Nat.le_of_ble_eq_true rfl) (Nat.le_of_ble_eq_true rfl) ?_
  obtain rfl : r_10 = 1 := hw
  refine lv_iconst (v := 1) hx hb dX10_machine_61 (by decide) ?_
  refine lv_isub hx hb dX10_machine_62 ?_
  refine lv_topi (fun x_11 ex_11 => ?_)
  obtain rfl : x_11 = 0 := ex_11.trans (by decide)
  have hP9 := hP.sub (ws' := [(m0, .inr (12, [.int 0, .ref l1, .ref l2, .int 0, .int 0, .int 0, .long 0]))]) [0] rfl
  have hD9 := hD.sub (ws' := [(m0, .inr (12, [.int 0, .ref l1, .ref l2, .int 0, .int 0, .int 0, .long 0]))]) [0] (by decide) rfl
  have hK9 := hK.sub (tys' := []) [] rfl
  refine W.widen (k := 3) (n := 23) (Nat.le_of_ble_eq_true rfl) (Nat.le_of_ble_eq_true rfl) ?_
  exact W.iret (v := 0) hx hb hr (fun t ht hW => ⟨⟨0, (), rfl, rfl, ⟨by rw [ht]; exact hP9, va_K.moved hW.alike hK9, hD9⟩⟩, hS.F ht⟩) hS.2.2 dX10_machine_63

def zs_c_X10_tag_ok : List Cond := .code yX10_tag cX10_tag 5 (some .int) :: (([.fieldLink RX10 19 "HaltingaleModel" "thrown" "I", .code yX10_is cX10_is 3 (some .boolean), .methodLink RX10 27 yX10_is, .static yX10_is, .initialized RX10, .fieldLink RX10 16 "HaltingaleModel" "tags" "Ljava/util/ArrayList;", .code yJx4a65c_size_8abf5 cJx4a65c_size_8abf5 1 (some .int), .fieldLink RJx4a65c 48 "java/util/ArrayList" "size" "I", .methodLink RX10 23 yJx4a65c_size_8abf5, .instanceMethod yJx4a65c_size_8abf5, .initialized RJx4a65c, .selects RJx4a65c yJx4a65c_size_8abf5 yJx4a65c_size_8abf5, .arrayClass .int, .code yJx4a65c_add_9ea2d cJx4a65c_add_9ea2d 2 (some .boolean), .sameField "java/util/ArrayList" "java/util/AbstractList" "modCount" "I", .fieldLink RJx4a65c 63 "java/util/ArrayList" "modCount" "I", .fieldLink RJx4a65c 9 "java/util/ArrayList" "elementData" "[Ljava/lang/Object;", .code yJx4a65c_add_72be8 cJx4a65c_add_72be8 4 none, .code yJx4a65c_grow_d5877 cJx4a65c_grow_d5877 1 (some (.array (.object "java/lang/Object"))), .code yJx4a65c_grow_92f84 cJx4a65c_grow_92f84 4 (some (.array (.object "java/lang/Object"))), .fieldLink RJx4a65c 39 "java/util/ArrayList" "DEFAULTCAPACITY_EMPTY_ELEMENTDATA" "[Ljava/lang/Object;", .methodLink RJx4a65c 79 Lib.Math.max.name, .static Lib.Math.max.name, .initialized "java/lang/Math", .code Lib.Math.max.name Lib.Math.max.code 2 (some .int), .classLink RJx4a65c 7 "java/lang/Object", .methodLink RJx4a65c 69 yJx4a65c_grow_92f84, .instanceMethod yJx4a65c_grow_92f84, .selects RJx4a65c yJx4a65c_grow_92f84 yJx4a65c_grow_92f84, .methodLink RJx4a65c 129 yJx4a65c_grow_d5877, .instanceMethod yJx4a65c_grow_d5877, .selects RJx4a65c yJx4a65c_grow_d5877 yJx4a65c_grow_d5877, .methodLink RJx4a65c 131 yJx4a65c_add_72be8, .instanceMethod yJx4a65c_add_72be8, .selects RJx4a65c yJx4a65c_add_72be8 yJx4a65c_add_72be8, .methodLink RX10 40 yJx4a65c_add_9ea2d, .instanceMethod yJx4a65c_add_9ea2d, .selects RJx4a65c yJx4a65c_add_9ea2d yJx4a65c_add_9ea2d] : List Cond) ++ wsX100 ++ wsJx4a65c0)
set_option maxHeartbeats 4000000 in
set_option maxRecDepth 100000 in
/-- tag, the first -/
theorem c_X10_tag_ok (l : Launch) (hnt : l.stackTraces = false) (dC : Nat → ClassId) (dI : Nat → Nat → Nat) (a0 : Nat) (m0 : Nat) (l1 : Nat) (l2 : Nat) (p0 : Int32) (p1 : Int32) (p2 : Int32) (sz : Nat) (hp0 : zw p0 1 3 = 1) (hp1 : zw p1 1 63 = 1) (hp2 : zw p2 1 63 = 1) : Met l yX10_tag zs_c_X10_tag_ok ({ frames := 5, cells := 2, slots := 13, locals := 101 }) (va_Pc [.ref m0, .int p0, .int p1, .int p2] (fun U => U.heap.size = sz ∧ va_P (dC, dI) vwCl [(m0, .inr (12, [.int 0, .ref l1, .ref l2, .int 0, .int 0, .int 0, .long 0])), (l2, .inr (1, [.int 0, .ref a0, .int 0]))] U.heap ∧ va_K (dC, dI) vwCl [] U ∧ va_D (fun _ => True) [(m0, .inr (12, [.int 0, .ref l1, .ref l2, .int 0, .int 0, .int 0, .long 0])), (l2, .inr (1, [.int 0, .ref a0, .int 0]))] ∧ zB a0 (va_A [(m0, .inr (12, [.int 0, .ref l1, .ref l2, .int 0, .int 0, .int 0, .long 0])), (l2, .inr (1, [.int 0, .ref a0, .int 0]))] sz) U U.heap)) (va_Qi (fun (r : Int32) (_ : Unit) => r = 0) (fun _ t => va_P (dC, dI) vwCl [(m0, .inr (12, [.int 0, .ref l1, .ref l2, .int 0, .int 0, .int 0, .long 0]))] t.heap ∧ va_K (dC, dI) vwCl [] t ∧ va_D (va_A [(m0, .inr (12, [.int 0, .ref l1, .ref l2, .int 0, .int 0, .int 0, .long 0])), (l2, .inr (1, [.int 0, .ref a0, .int 0]))] sz) [(m0, .inr (12, [.int 0, .ref l1, .ref l2, .int 0, .int 0, .int 0, .long 0]))]) (va_A [(m0, .inr (12, [.int 0, .ref l1, .ref l2, .int 0, .int 0, .int 0, .long 0])), (l2, .inr (1, [.int 0, .ref a0, .int 0]))] sz)) 2 13 (va_A [(m0, .inr (12, [.int 0, .ref l1, .ref l2, .int 0, .int 0, .int 0, .long 0])), (l2, .inr (1, [.int 0, .ref a0, .int 0]))] sz) := by
  refine Met.ofW (cc := cX10_tag) (maxL := 5) (ret := (some .int)) (by decide) rfl ?_
  intro p e s m args below meth c s₁ B hml hv
  obtain ⟨rfl, hsz, hP, hK, hD0, hZ⟩ := hv
  have hx := B.exec
  have hb := B.bytes
  have hr := B.returns
  have hts := atoms_spec (ws := zs_c_X10_tag_ok) B.pre
  have hown : s.vm.findClass RX10 = some m.cls := findClass_of_methodNamed B.named
  have hlocks := B.notSynchronized
  have hiX10 : ∀ w ∈ wsX100, w ∈ zs_c_X10_tag_ok := by decide +kernel
  subst hsz
  have hD := hD0.self (sz := s.heap.size)
  generalize hAe : va_A [(m0, .inr (12, [.int 0, .ref l1, .ref l2, .int 0, .int 0, .int 0, .long 0])), (l2, .inr (1, [.int 0, .ref a0, .int 0]))] s.heap.size = A at hD hZ ⊢
  have hA : ∀ q : Nat, s.heap.size ≤ q → A q := fun q h => by rw [← hAe]; exact Or.inr h
  have hS : va_S A s.heap s.heap [] := va_S.rf
  have hl := lv_entry ([.ref m0, .int p0, .int p1, .int p2]) (n := 5) (Nat.le_of_ble_eq_true rfl)
  rw [lg_entry_eq]
  generalize (lg_sl ([.ref m0, .int p0, .int p1, .int p2]) ++ List.replicate (5 - (lg_sl ([.ref m0, .int p0, .int p1, .int p2])).length) Slot.unset).toArray = ls at hl ⊢
  have hl : lv_has ls 5 [(0, .ref m0), (1, .int p0), (2, .int p1), (3, .int p2)] := hl
  refine lv_aload_n hx hb dX10_tag_0 rfl (lv_at hl 0 rfl) ?_
  refine lv_iconst (v := 0) hx hb dX10_tag_1 (by decide) ?_
  refine va_put (D := (dC, dI)) (ci := 12) (v := .int 0) (ty := .int) (C := RX10) (T := TX10) (N := 7) hx hb hts hiX10 tyX10 tyX10_ok nmX10 hown hK hP hD hS 0 rfl rfl 0 (by decide) (hts (.fieldLink RX10 19 "HaltingaleModel" "thrown" "I") (by decide +kernel)) (fun _ h9 => h9) rfl (by decide +kernel) rfl rfl (Nat.le_of_ble_eq_true rfl) dX10_tag_2 (fun H locs hP hD hS => ?_)
  have hP : va_P (dC, dI) vwCl [(m0, .inr (12, [.int 0, .ref l1, .ref l2, .int 0, .int 0, .int 0, .long 0])), (l2, .inr (1, [.int 0, .ref a0, .int 0]))] H := hP
  have hD : va_D A [(m0, .inr (12, [.int 0, .ref l1, .ref l2, .int 0, .int 0, .int 0, .long 0])), (l2, .inr (1, [.int 0, .ref a0, .int 0]))] := hD
  refine lv_iload_n hx hb dX10_tag_5 rfl (lv_at hl 1 rfl) ?_
  refine lv_iconst (v := 1) hx hb dX10_tag_6 (by decide) ?_
  refine lv_iconst (v := 3) hx hb dX10_tag_7 (by decide) ?_
  have hPc := hP.sub (ws' := []) [] rfl
  have hDc := hD.sub (ws' := []) [] (by decide) rfl
  have hKc := hK.sub (tys' := []) [] rfl
  have hFc := va_free (wc := []) hD hS hA [] rfl
  have hZc := ((hZ.kept hS.2.1).narrow hFc)
  refine va_calli (va_runS (As := [.int p0, .int 1, .int 3]) (rest := []) ⟨hx, hb, hml, hown, hts⟩ (c_X10_is l hnt dC dI a0 p0 1 3 H.size ) (va_cwS 3 hts (goodIn_of _ (by decide +kernel)) rfl rfl rfl (by decide +kernel) ⟨Nat.le_of_ble_eq_true rfl, Nat.le_of_ble_eq_true rfl⟩) ⟨fun a U g mk q => by obtain ⟨q0, q1, qP, qK, qD, qZ⟩ := q; exact ⟨q0, q1, qP, va_K.moved (u := U) (U := U.calling g mk a) (Vm.Alike.refl U.vm) qK, qD, qZ.call⟩, fun U hU hW => ⟨rfl, by rw [hU], by rw [hU]; exact hPc, va_K.moved hW.alike hKc, hDc.weaken (fun _ _ _ _ => trivial), by rw [hU]; exact hZc.warm hW⟩⟩ rfl rfl hl.1 rfl (lv_room (Nat.le_of_ble_eq_true rfl)) dX10_tag_8 ⟨Nat.le_of_ble_eq_true rfl, Nat.le_of_ble_eq_true rfl⟩) hS (fun q _ h => hFc q h) hFc (fun r_1 u t H1 locs ht hvm hw hB hz1 hk1 hS => ?_)
  obtain ⟨hP1, hK1, hD1⟩ := hB
  rw [ht] at hP1
  have hK1 := va_K.moved hvm.symm hK1
  obtain ⟨hP, hD⟩ := va_join (wr := [(m0, .inr (12, [.int 0, .ref l1, .ref l2, .int 0, .int 0, .int 0, .long 0])), (l2, .inr (1, [.int 0, .ref a0, .int 0]))]) (w1 := []) hP hD [] [0, 1] rfl rfl (by decide) (by decide) hk1 hFc hP1 hD1
  have hK := (hK.sub (tys' := []) [] rfl).app hK1
  generalize H1 = H at hP hS ⊢
  have hP : va_P (dC, dI) vwCl [(m0, .inr (12, [.int 0, .ref l1, .ref l2, .int 0, .int 0, .int 0, .long 0])), (l2, .inr (1, [.int 0, .ref a0, .int 0]))] H := hP
  have hD : va_D A [(m0, .inr (12, [.int 0, .ref l1, .ref l2, .int 0, .int 0, .int 0, .long 0])), (l2, .inr (1, [.int 0, .ref a0, .int 0]))] := hD
  have hK : va_K (dC, dI) vwCl [] s := hK
  refine W.widen (k := 0) (n := 0) (Nat.le_of_ble_eq_true rfl) (Nat.le_of_ble_eq_true rfl) ?_
  obtain rfl : r_1 = 1 := hw.trans (hp0)
  refine lv_if_eq (tgt := 34) hx hb dX10_tag_11 (by decide) (fun c_2 => ?_) (fun c_2 => ?_)
  · (first | exact absurd c_2 (by decide) | exact absurd (by decide) c_2)
  refine lv_iload_n hx hb dX10_tag_14 rfl (lv_at hl 2 rfl) ?_
  refine lv_iconst (v := 1) hx hb dX10_tag_15 (by decide) ?_
  refine lv_bipush (v := 63) hx hb dX10_tag_16 (by decide) ?_
  have hPc := hP.sub (ws' := []) [] rfl
  have hDc := hD.sub (ws' := []) [] (by decide) rfl
  have hKc := hK.sub (tys' := []) [] rfl
  have hFc := va_free (wc := []) hD hS hA [] rfl
  have hZc := ((hZ.kept hS.2.1).narrow hFc)
  refine va_calli (va_runS (As := [.int p1, .int 1, .int 63]) (rest := []) ⟨hx, hb, hml, hown, hts⟩ (c_X10_is l hnt dC dI a0 p1 1 63 H.size ) (va_cwS 3 hts (goodIn_of _ (by decide +kernel)) rfl rfl rfl (by decide +kernel) ⟨Nat.le_of_ble_eq_true rfl, Nat.le_of_ble_eq_true rfl⟩) ⟨fun a U g mk q => by obtain ⟨q0, q1, qP, qK, qD, qZ⟩ := q; exact ⟨q0, q1, qP, va_K.moved (u := U) (U := U.calling g mk a) (Vm.Alike.refl U.vm) qK, qD, qZ.call⟩, fun U hU hW => ⟨rfl, by rw [hU], by rw [hU]; exact hPc, va_K.moved hW.alike hKc, hDc.weaken (fun _ _ _ _ => trivial), by rw [hU]; exact hZc.warm hW⟩⟩ rfl rfl hl.1 rfl (lv_room (Nat.le_of_ble_eq_true rfl)) dX10_tag_18 ⟨Nat.le_of_ble_eq_true rfl, Nat.le_of_ble_eq_true rfl⟩) hS (fun q _ h => hFc q h) hFc (fun r_3 u t H1 locs ht hvm hw hB hz1 hk1 hS => ?_)
  obtain ⟨hP1, hK1, hD1⟩ := hB
  rw [ht] at hP1
  have hK1 := va_K.moved hvm.symm hK1
  obtain ⟨hP, hD⟩ := va_join (wr := [(m0, .inr (12, [.int 0, .ref l1, .ref l2, .int 0, .int 0, .int 0, .long 0])), (l2, .inr (1, [.int 0, .ref a0, .int 0]))]) (w1 := []) hP hD [] [0, 1] rfl rfl (by decide) (by decide) hk1 hFc hP1 hD1
  have hK := (hK.sub (tys' := []) [] rfl).app hK1
  generalize H1 = H at hP hS ⊢
  have hP : va_P (dC, dI) vwCl [(m0, .inr (12, [.int 0, .ref l1, .ref l2, .int 0, .int 0, .int 0, .long 0])), (l2, .inr (1, [.int 0, .ref a0, .int 0]))] H := hP
  have hD : va_D A [(m0, .inr (12, [.int 0, .ref l1, .ref l2, .int 0, .int 0, .int 0, .long 0])), (l2, .inr (1, [.int 0, .ref a0, .int 0]))] := hD
  have hK : va_K (dC, dI) vwCl [] s := hK
  refine W.widen (k := 0) (n := 0) (Nat.le_of_ble_eq_true rfl) (Nat.le_of_ble_eq_true rfl) ?_
  obtain rfl : r_3 = 1 := hw.trans (hp1)
  refine lv_if_eq (tgt := 34) hx hb dX10_tag_21 (by decide) (fun c_4 => ?_) (fun c_4 => ?_)
  · (first | exact absurd c_4 (by decide) | exact absurd (by decide) c_4)
  refine lv_iload_n hx hb dX10_tag_24 rfl (lv_at hl 3 rfl) ?_
  refine lv_iconst (v := 1) hx hb dX10_tag_25 (by decide) ?_
  refine lv_bipush (v := 63) hx hb dX10_tag_26 (by decide) ?_
  have hPc := hP.sub (ws' := []) [] rfl
  have hDc := hD.sub (ws' := []) [] (by decide) rfl
  have hKc := hK.sub (tys' := []) [] rfl
  have hFc := va_free (wc := []) hD hS hA [] rfl
  have hZc := ((hZ.kept hS.2.1).narrow hFc)
  refine va_calli (va_runS (As := [.int p2, .int 1, .int 63]) (rest := []) ⟨hx, hb, hml, hown, hts⟩ (c_X10_is l hnt dC dI a0 p2 1 63 H.size ) (va_cwS 3 hts (goodIn_of _ (by decide +kernel)) rfl rfl rfl (by decide +kernel) ⟨Nat.le_of_ble_eq_true rfl, Nat.le_of_ble_eq_true rfl⟩) ⟨fun a U g mk q => by obtain ⟨q0, q1, qP, qK, qD, qZ⟩ := q; exact ⟨q0, q1, qP, va_K.moved (u := U) (U := U.calling g mk a) (Vm.Alike.refl U.vm) qK, qD, qZ.call⟩, fun U hU hW => ⟨rfl, by rw [hU], by rw [hU]; exact hPc, va_K.moved hW.alike hKc, hDc.weaken (fun _ _ _ _ => trivial), by rw [hU]; exact hZc.warm hW⟩⟩ rfl rfl hl.1 rfl (lv_room (Nat.le_of_ble_eq_true rfl)) dX10_tag_28 ⟨Nat.le_of_ble_eq_true rfl, Nat.le_of_ble_eq_true rfl⟩) hS (fun q _ h => hFc q h) hFc (fun r_5 u t H1 locs ht hvm hw hB hz1 hk1 hS => ?_)
  obtain ⟨hP1, hK1, hD1⟩ := hB
  rw [ht] at hP1
  have hK1 := va_K.moved hvm.symm hK1
  obtain ⟨hP, hD⟩ := va_join (wr := [(m0, .inr (12, [.int 0, .ref l1, .ref l2, .int 0, .int 0, .int 0, .long 0])), (l2, .inr (1, [.int 0, .ref a0, .int 0]))]) (w1 := []) hP hD [] [0, 1] rfl rfl (by decide) (by decide) hk1 hFc hP1 hD1
  have hK := (hK.sub (tys' := []) [] rfl).app hK1
  generalize H1 = H at hP hS ⊢
  have hP : va_P (dC, dI) vwCl [(m0, .inr (12, [.int 0, .ref l1, .ref l2, .int 0, .int 0, .int 0, .long 0])), (l2, .inr (1, [.int 0, .ref a0, .int 0]))] H := hP
  have hD : va_D A [(m0, .inr (12, [.int 0, .ref l1, .ref l2, .int 0, .int 0, .int 0, .long 0])), (l2, .inr (1, [.int 0, .ref a0, .int 0]))] := hD
  have hK : va_K (dC, dI) vwCl [] s := hK
  refine W.widen (k := 0) (n := 0) (Nat.le_of_ble_eq_true rfl) (Nat.le_of_ble_eq_true rfl) ?_
  obtain rfl : r_5 = 1 := hw.trans (hp2)
  refine lv_if_ne (tgt := 40) hx hb dX10_tag_31 (by decide) (fun c_6 => ?_) (fun c_6 => ?_)
  rotate_left
  · (first | exact absurd c_6 (by decide) | exact absurd (by decide) c_6)
  refine lv_aload_n hx hb dX10_tag_40 rfl (lv_at hl 0 rfl) ?_
  refine va_get (D := (dC, dI)) (ci := 12) (v := .ref l2) (C := RX10) (T := TX10) (N := 7) hx hb hts hiX10 hown hK hP 0 rfl rfl 2 (by decide) (hts (.fieldLink RX10 16 "HaltingaleModel" "tags" "Ljava/util/ArrayList;") (by decide +kernel)) (fun _ h9 => h9) rfl dX10_tag_41 ?_
  have hPc := hP.sub (ws' := [(l2, .inr (1, [.int 0, .ref a0, .int 0]))]) [1] rfl
  have hDc := hD.sub (ws' := [(l2, .inr (1, [.int 0, .ref a0, .int 0]))]) [1] (by decide) rfl
  have hKc := hK.sub (tys' := []) [] rfl
  have hFc := va_free (wc := [(l2, .inr (1, [.int 0, .ref a0, .int 0]))]) hD hS hA [1] rfl
  have hZc := ((hZ.kept hS.2.1).narrow hFc)
  refine va_calli (va_runV (As := []) (rest := []) ⟨hx, hb, hml, hown, hts⟩ (c_Jx4a65c_size_8abf5 l hnt dC dI a0 l2 0 a0 0 H.size ) (cwV 0 hts (goodIn_of _ (by decide +kernel)) rfl rfl rfl (by decide +kernel) ⟨Nat.le_of_ble_eq_true rfl, Nat.le_of_ble_eq_true rfl⟩) ⟨fun a U g mk q => by obtain ⟨q0, q1, qP, qK, qD, qZ⟩ := q; exact ⟨q0, q1, qP, va_K.moved (u := U) (U := U.calling g mk a) (Vm.Alike.refl U.vm) qK, qD, qZ.call⟩, va_recv hKc hPc (ci := 1) (q0 := 0) rfl rfl, fun U hU hW => ⟨rfl, by rw [hU], by rw [hU]; exact hPc, va_K.moved hW.alike hKc, hDc.weaken (fun _ _ _ _ => trivial), by rw [hU]; exact hZc.warm hW⟩⟩ rfl rfl hl.1 rfl (lv_room (Nat.le_of_ble_eq_true rfl)) dX10_tag_44 ⟨Nat.le_of_ble_eq_true rfl, Nat.le_of_ble_eq_true rfl⟩) hS (fun q _ h => hFc q h) hFc (fun r_7 u t H1 locs ht hvm hw hB hz1 hk1 hS => ?_)
  obtain ⟨hP1, hK1, hD1⟩ := hB
  rw [ht] at hP1
  have hK1 := va_K.moved hvm.symm hK1
  obtain ⟨hP, hD⟩ := va_join (wr := [(m0, .inr (12, [.int 0, .ref l1, .ref l2, .int 0, .int 0, .int 0, .long 0]))]) (w1 := [(l2, .inr (1, [.int 0, .ref a0, .int 0]))]) hP hD [1] [0] rfl rfl (by decide) (by decide) hk1 hFc hP1 hD1
  have hK := (hK.sub (tys' := []) [] rfl).app hK1
  generalize H1 = H at hP hS ⊢
  have hP : va_P (dC, dI) vwCl [(m0, .inr (12, [.int 0, .ref l1, .ref l2, .int 0, .int 0, .int 0, .long 0])), (l2, .inr (1, [.int 0, .ref a0, .int 0]))] H := hP
  have hD : va_D A [(m0, .inr (12, [.int 0, .ref l1, .ref l2, .int 0, .int 0, .int 0, .long 0])), (l2, .inr (1, [.int 0, .ref a0, .int 0]))] := hD
  have hK : va_K (dC, dI) vwCl [] s := hK
  refine W.widen (k := 0) (n := 0) (Nat.le_of_ble_eq_true rfl) (Nat.le_of_ble_eq_true rfl) ?_
  obtain rfl : r_7 = 0 := hw
  refine lv_iconst (v := 4) hx hb dX10_tag_47 (by decide) ?_
  refine lv_icmp_ne (tgt := 57) hx hb dX10_tag_48 (by decide) (fun c_8 => ?_) (fun c_8 => ?_)
  rotate_left
  · (first | exact absurd c_8 (by decide) | exact absurd (by decide) c_8)
  refine lv_iconst (v := 3) hx hb dX10_tag_57 (by decide) ?_
  refine va_newa (atype := .int) (ty := .int) (N' := 3) (a0 := (3, .inl (fun _ => 0))) hx hb (hts (.arrayClass .int) (by decide +kernel)) rfl hK hP hD hS hA (fun _ => rfl) (by decide) (by decide) (Nat.le_of_ble_eq_true rfl) (Nat.le_of_ble_eq_true rfl) (Nat.le_of_ble_eq_true rfl) dX10_tag_58 (fun q_9 cy_10 H hK hP hD hS => ?_)
  have hK : va_K (dC, dI) vwCl [(cy_10, .int)] s := hK
  have hP : va_P (dC, dI) vwCl [(m0, .inr (12, [.int 0, .ref l1, .ref l2, .int 0, .int 0, .int 0, .long 0])), (l2, .inr (1, [.int 0, .ref a0, .int 0])), (q_9, .inl (cy_10, 3, .inl (fun _ => 0)))] H := hP
  have hD : va_D A [(m0, .inr (12, [.int 0, .ref l1, .ref l2, .int 0, .int 0, .int 0, .long 0])), (l2, .inr (1, [.int 0, .ref a0, .int 0])), (q_9, .inl (cy_10, 3, .inl (fun _ => 0)))] := hD
  refine W.widen (k := 1) (n := 3) (Nat.le_of_ble_eq_true rfl) (Nat.le_of_ble_eq_true rfl) ?_
  refine lv_dup hx hb dX10_tag_60 rfl ?_
  refine lv_iconst (v := 0) hx hb dX10_tag_61 (by decide) ?_
  refine lv_iload_n hx hb dX10_tag_62 rfl (lv_at hl 1 rfl) ?_
  refine va_iast hx hb hK hP hD hS 2 0 rfl rfl (by unfold vp_in; decide) dX10_tag_63 (fun H locs hP hD hS => ?_)
  have hP : va_P (dC, dI) vwCl [(m0, .inr (12, [.int 0, .ref l1, .ref l2, .int 0, .int 0, .int 0, .long 0])), (l2, .inr (1, [.int 0, .ref a0, .int 0])), (q_9, .inl (cy_10, 3, .inl (upd (fun _ => 0) ((0 : Int32).toNatClampNeg) p0)))] H := hP
  have hD : va_D A [(m0, .inr (12, [.int 0, .ref l1, .ref l2, .int 0, .int 0, .int 0, .long 0])), (l2, .inr (1, [.int 0, .ref a0, .int 0])), (q_9, .inl (cy_10, 3, .inl (upd (fun _ => 0) ((0 : Int32).toNatClampNeg) p0)))] := hD
  refine lv_dup hx hb dX10_tag_64 rfl ?_
  refine lv_iconst (v := 1) hx hb dX10_tag_65 (by decide) ?_
  refine lv_iload_n hx hb dX10_tag_66 rfl (lv_at hl 2 rfl) ?_
  refine va_iast hx hb hK hP hD hS 2 0 rfl rfl (by unfold vp_in; decide) dX10_tag_67 (fun H locs hP hD hS => ?_)
  have hP : va_P (dC, dI) vwCl [(m0, .inr (12, [.int 0, .ref l1, .ref l2, .int 0, .int 0, .int 0, .long 0])), (l2, .inr (1, [.int 0, .ref a0, .int 0])), (q_9, .inl (cy_10, 3, .inl (upd (upd (fun _ => 0) ((0 : Int32).toNatClampNeg) p0) ((1 : Int32).toNatClampNeg) p1)))] H := hP
  have hD : va_D A [(m0, .inr (12, [.int 0, .ref l1, .ref l2, .int 0, .int 0, .int 0, .long 0])), (l2, .inr (1, [.int 0, .ref a0, .int 0])), (q_9, .inl (cy_10, 3, .inl (upd (upd (fun _ => 0) ((0 : Int32).toNatClampNeg) p0) ((1 : Int32).toNatClampNeg) p1)))] := hD
  refine lv_dup hx hb dX10_tag_68 rfl ?_
  refine lv_iconst (v := 2) hx hb dX10_tag_69 (by decide) ?_
  refine lv_iload_n hx hb dX10_tag_70 rfl (lv_at hl 3 rfl) ?_
  refine va_iast hx hb hK hP hD hS 2 0 rfl rfl (by unfold vp_in; decide) dX10_tag_71 (fun H locs hP hD hS => ?_)
  have hP : va_P (dC, dI) vwCl [(m0, .inr (12, [.int 0, .ref l1, .ref l2, .int 0, .int 0, .int 0, .long 0])), (l2, .inr (1, [.int 0, .ref a0, .int 0])), (q_9, .inl (cy_10, 3, .inl (upd (upd (upd (fun _ => 0) ((0 : Int32).toNatClampNeg) p0) ((1 : Int32).toNatClampNeg) p1) ((2 : Int32).toNatClampNeg) p2)))] H := hP
  have hD : va_D A [(m0, .inr (12, [.int 0, .ref l1, .ref l2, .int 0, .int 0, .int 0, .long 0])), (l2, .inr (1, [.int 0, .ref a0, .int 0])), (q_9, .inl (cy_10, 3, .inl (upd (upd (upd (fun _ => 0) ((0 : Int32).toNatClampNeg) p0) ((1 : Int32).toNatClampNeg) p1) ((2 : Int32).toNatClampNeg) p2)))] := hD
  refine lv_astore (lv' := [(4, .ref q_9), (0, .ref m0), (1, .int p0), (2, .int p1), (3, .int p2)]) hx hb dX10_tag_72 hl (by decide) rfl (fun ls hl => ?_)
  refine lv_aload_n hx hb dX10_tag_74 rfl (lv_at hl 1 rfl) ?_
  refine va_get (D := (dC, dI)) (ci := 12) (v := .ref l2) (C := RX10) (T := TX10) (N := 7) hx hb hts hiX10 hown hK hP 0 rfl rfl 2 (by decide) (hts (.fieldLink RX10 16 "HaltingaleModel" "tags" "Ljava/util/ArrayList;") (by decide +kernel)) (fun _ h9 => h9) rfl dX10_tag_75 ?_
  refine lv_aload hx hb dX10_tag_78 (lv_at hl 0 rfl) ?_
  have hPc := hP.sub (ws' := [(l2, .inr (1, [.int 0, .ref a0, .int 0])), (q_9, .inl (cy_10, 3, .inl (upd (upd (upd (fun _ => 0) ((0 : Int32).toNatClampNeg) p0) ((1 : Int32).toNatClampNeg) p1) ((2 : Int32).toNatClampNeg) p2)))]) [1, 2] rfl
  have hDc := hD.sub (ws' := [(l2, .inr (1, [.int 0, .ref a0, .int 0])), (q_9, .inl (cy_10, 3, .inl (upd (upd (upd (fun _ => 0) ((0 : Int32).toNatClampNeg) p0) ((1 : Int32).toNatClampNeg) p1) ((2 : Int32).toNatClampNeg) p2)))]) [1, 2] (by decide) rfl
  have hKc := hK.sub (tys' := [(cy_10, .int)]) [0] rfl
  have hFc := va_free (wc := [(l2, .inr (1, [.int 0, .ref a0, .int 0])), (q_9, .inl (cy_10, 3, .inl (upd (upd (upd (fun _ => 0) ((0 : Int32).toNatClampNeg) p0) ((1 : Int32).toNatClampNeg) p1) ((2 : Int32).toNatClampNeg) p2)))]) hD hS hA [1, 2] rfl
  have hZc := ((hZ.kept hS.2.1).narrow hFc)
  refine va_calli (va_runV (As := [.ref q_9]) (rest := []) ⟨hx, hb, hml, hown, hts⟩ (c_Jx4a65c_add_9ea2d_I l hnt dC dI a0 l2 q_9 (upd (upd (upd (fun _ => 0) ((0 : Int32).toNatClampNeg) p0) ((1 : Int32).toNatClampNeg) p1) ((2 : Int32).toNatClampNeg) p2) cy_10 H.size ) (cwV 1 hts (goodIn_of _ (by decide +kernel)) rfl rfl rfl (by decide +kernel) ⟨Nat.le_of_ble_eq_true rfl, Nat.le_of_ble_eq_true rfl⟩) ⟨fun a U g mk q => by obtain ⟨q0, q1, qP, qK, qD, qZ⟩ := q; exact ⟨q0, q1, qP, va_K.moved (u := U) (U := U.calling g mk a) (Vm.Alike.refl U.vm) qK, qD, qZ.call⟩, va_recv hKc hPc (ci := 1) (q0 := 0) rfl rfl, fun U hU hW => ⟨rfl, by rw [hU], by rw [hU]; exact hPc, va_K.moved hW.alike hKc, hDc.weaken (fun _ _ _ _ => trivial), by rw [hU]; exact hZc.warm hW⟩⟩ rfl rfl hl.1 rfl (lv_room (Nat.le_of_ble_eq_true rfl)) dX10_tag_80 ⟨Nat.le_of_ble_eq_true rfl, Nat.le_of_ble_eq_true rfl⟩) hS (fun q _ h => hFc q h) hFc (fun r_14 u t H1 locs ht hvm hw hB hz1 hk1 hS => ?_)
  obtain ⟨q_15, hP1, hK1, hD1⟩ := hB
  rw [ht] at hP1
  have hK1 := va_K.moved hvm.symm hK1
  obtain ⟨hP, hD⟩ := va_join (wr := [(m0, .inr (12, [.int 0, .ref l1, .ref l2, .int 0, .int 0, .int 0, .long 0]))]) (w1 := [(l2, .inr (1, [.int 1, .ref q_15, .int 1]))]) hP hD [1, 2] [0] rfl rfl (by decide) (by decide) hk1 hFc hP1 hD1
  have hK := (hK.sub (tys' := [(cy_10, .int)]) [0] rfl).app hK1
  generalize H1 = H at hP hS ⊢
  have hP : va_P (dC, dI) vwCl [(m0, .inr (12, [.int 0, .ref l1, .ref l2, .int 0, .int 0, .int 0, .long 0])), (l2, .inr (1, [.int 1, .ref q_15, .int 1]))] H := hP
  have hD : va_D A [(m0, .inr (12, [.int 0, .ref l1, .ref l2, .int 0, .int 0, .int 0, .long 0])), (l2, .inr (1, [.int 1, .ref q_15, .int 1]))] := hD
  have hK : va_K (dC, dI) vwCl [(cy_10, .int)] s := hK
  refine W.widen (k := 2) (n := 13) (Nat.le_of_ble_eq_true rfl) (Nat.le_of_ble_eq_true rfl) ?_
  obtain rfl : r_14 = 1 := hw
  refine lv_pop hx hb dX10_tag_83 rfl ?_
  refine lv_aload_n hx hb dX10_tag_84 rfl (lv_at hl 1 rfl) ?_
  refine va_get (D := (dC, dI)) (ci := 12) (v := .ref l2) (C := RX10) (T := TX10) (N := 7) hx hb hts hiX10 hown hK hP 0 rfl rfl 2 (by decide) (hts (.fieldLink RX10 16 "HaltingaleModel" "tags" "Ljava/util/ArrayList;") (by decide +kernel)) (fun _ h9 => h9) rfl dX10_tag_85 ?_
  have hPc := hP.sub (ws' := [(l2, .inr (1, [.int 1, .ref q_15, .int 1]))]) [1] rfl
  have hDc := hD.sub (ws' := [(l2, .inr (1, [.int 1, .ref q_15, .int 1]))]) [1] (by decide) rfl
  have hKc := hK.sub (tys' := []) [] rfl
  have hFc := va_free (wc := [(l2, .inr (1, [.int 1, .ref q_15, .int 1]))]) hD hS hA [1] rfl
  have hZc := ((hZ.kept hS.2.1).narrow hFc)
  refine va_calli (va_runV (As := []) (rest := []) ⟨hx, hb, hml, hown, hts⟩ (c_Jx4a65c_size_8abf5 l hnt dC dI a0 l2 1 q_15 1 H.size ) (cwV 0 hts (goodIn_of _ (by decide +kernel)) rfl rfl rfl (by decide +kernel) ⟨Nat.le_of_ble_eq_true rfl, Nat.le_of_ble_eq_true rfl⟩) ⟨fun a U g mk q => by obtain ⟨q0, q1, qP, qK, qD, qZ⟩ := q; exact ⟨q0, q1, qP, va_K.moved (u := U) (U := U.calling g mk a) (Vm.Alike.refl U.vm) qK, qD, qZ.call⟩, va_recv hKc hPc (ci := 1) (q0 := 0) rfl rfl, fun U hU hW => ⟨rfl, by rw [hU], by rw [hU]; exact hPc, va_K.moved hW.alike hKc, hDc.weaken (fun _ _ _ _ => trivial), by rw [hU]; exact hZc.warm hW⟩⟩ rfl rfl hl.1 rfl (lv_room (Nat.le_of_ble_eq_true rfl)) dX10_tag_88 ⟨Nat.le_of_ble_eq_true rfl, Nat.le_of_ble_eq_true rfl⟩) hS (fun q _ h => hFc q h) hFc (fun r_16 u t H1 locs ht hvm hw hB hz1 hk1 hS => ?_)
  obtain ⟨hP1, hK1, hD1⟩ := hB
  rw [ht] at hP1
  have hK1 := va_K.moved hvm.symm hK1
  obtain ⟨hP, hD⟩ := va_join (wr := [(m0, .inr (12, [.int 0, .ref l1, .ref l2, .int 0, .int 0, .int 0, .long 0]))]) (w1 := [(l2, .inr (1, [.int 1, .ref q_15, .int 1]))]) hP hD [1] [0] rfl rfl (by decide) (by decide) hk1 hFc hP1 hD1
  have hK := (hK.sub (tys' := [(cy_10, .int)]) [0] rfl).app hK1
  generalize H1 = H at hP hS ⊢
  have hP : va_P (dC, dI) vwCl [(m0, .inr (12, [.int 0, .ref l1, .ref l2, .int 0, .int 0, .int 0, .long 0])), (l2, .inr (1, [.int 1, .ref q_15, .int 1]))] H := hP
  have hD : va_D A [(m0, .inr (12, [.int 0, .ref l1, .ref l2, .int 0, .int 0, .int 0, .long 0])), (l2, .inr (1, [.int 1, .ref q_15, .int 1]))] := hD
  have hK : va_K (dC, dI) vwCl [(cy_10, .int)] s := hK
  refine W.widen (k := 2) (n := 13) (Nat.le_of_ble_eq_true rfl) (Nat.le_of_ble_eq_true rfl) ?_
  obtain rfl : r_16 = 1 := hw
  refine lv_iconst (v := 1) hx hb dX10_tag_91 (by decide) ?_
  refine lv_isub hx hb dX10_tag_92 ?_
  refine lv_topi (fun x_17 ex_17 => ?_)
  obtain rfl : x_17 = 0 := ex_17.trans (by decide)
  have hP9 := hP.sub (ws' := [(m0, .inr (12, [.int 0, .ref l1, .ref l2, .int 0, .int 0, .int 0, .long 0]))]) [0] rfl
  have hD9 := hD.sub (ws' := [(m0, .inr (12, [.int 0, .ref l1, .ref l2, .int 0, .int 0, .int 0, .long 0]))]) [0] (by decide) rfl
  have hK9 := hK.sub (tys' := []) [] rfl
  refine W.widen (k := 2) (n := 13) (Nat.le_of_ble_eq_true rfl) (Nat.le_of_ble_eq_true rfl) ?_
  exact W.iret (v := 0) hx hb hr (fun t ht hW => ⟨⟨0, (), rfl, rfl, ⟨by rw [ht]; exact hP9, va_K.moved hW.alike hK9, hD9⟩⟩, hS.F ht⟩) hS.2.2 dX10_tag_93

def zs_c_X10_add : List Cond := .code yX10_add cX10_add 2 none :: (([.fieldLink RX10 261 "HaltingaleModel" "sum" "J", .constantLong RX10 265 (31)] : List Cond) ++ wsX100)
set_option maxHeartbeats 4000000 in
set_option maxRecDepth 100000 in
/-- add -/
theorem c_X10_add (l : Launch) (hnt : l.stackTraces = false) (dC : Nat → ClassId) (dI : Nat → Nat → Nat) (a0 : Nat) (m0 : Nat) (l1 : Nat) (l2 : Nat) (p0 : Int32) (s0 : Int64) (s1 : Int64) (sz : Nat) (hs : s0 * 31 + p0.toInt64 = s1) : Met l yX10_add zs_c_X10_add ({ frames := 0, cells := 0, slots := 0, locals := 0 }) (va_Pc [.ref m0, .int p0] (fun U => U.heap.size = sz ∧ va_P (dC, dI) vwCl [(m0, .inr (12, [.int 0, .ref l1, .ref l2, .int 0, .int 0, .int 0, .long s0]))] U.heap ∧ va_K (dC, dI) vwCl [] U ∧ va_D (fun _ => True) [(m0, .inr (12, [.int 0, .ref l1, .ref l2, .int 0, .int 0, .int 0, .long s0]))] ∧ zB a0 (va_A [(m0, .inr (12, [.int 0, .ref l1, .ref l2, .int 0, .int 0, .int 0, .long s0]))] sz) U U.heap)) (va_Qv (fun _ : Unit => True) (fun _ t => va_P (dC, dI) vwCl [(m0, .inr (12, [.int 0, .ref l1, .ref l2, .int 0, .int 0, .int 0, .long s1]))] t.heap ∧ va_K (dC, dI) vwCl [] t ∧ va_D (va_A [(m0, .inr (12, [.int 0, .ref l1, .ref l2, .int 0, .int 0, .int 0, .long s0]))] sz) [(m0, .inr (12, [.int 0, .ref l1, .ref l2, .int 0, .int 0, .int 0, .long s1]))]) (va_A [(m0, .inr (12, [.int 0, .ref l1, .ref l2, .int 0, .int 0, .int 0, .long s0]))] sz)) 0 0 (va_A [(m0, .inr (12, [.int 0, .ref l1, .ref l2, .int 0, .int 0, .int 0, .long s0]))] sz) := by
  refine Met.ofW (cc := cX10_add) (maxL := 2) (ret := none) (by decide) rfl ?_
  intro p e s m args below meth c s₁ B hml hv
  obtain ⟨rfl, hsz, hP, hK, hD0, hZ⟩ := hv
  have hx := B.exec
  have hb := B.bytes
  have hr := B.returns
  have hts := atoms_spec (ws := zs_c_X10_add) B.pre
  have hown : s.vm.findClass RX10 = some m.cls := findClass_of_methodNamed B.named
  have hlocks := B.notSynchronized
  have hiX10 : ∀ w ∈ wsX100, w ∈ zs_c_X10_add := by decide +kernel
  subst hsz
  have hD := hD0.self (sz := s.heap.size)
  generalize hAe : va_A [(m0, .inr (12, [.int 0, .ref l1, .ref l2, .int 0, .int 0, .int 0, .long s0]))] s.heap.size = A at hD hZ ⊢
  have hA : ∀ q : Nat, s.heap.size ≤ q → A q := fun q h => by rw [← hAe]; exact Or.inr h
  have hS : va_S A s.heap s.heap [] := va_S.rf
  have hl := lv_entry ([.ref m0, .int p0]) (n := 2) (Nat.le_of_ble_eq_true rfl)
  rw [lg_entry_eq]
  generalize (lg_sl ([.ref m0, .int p0]) ++ List.replicate (2 - (lg_sl ([.ref m0, .int p0])).length) Slot.unset).toArray = ls at hl ⊢
  have hl : lv_has ls 2 [(0, .ref m0), (1, .int p0)] := hl
  refine lv_aload_n hx hb dX10_add_0 rfl (lv_at hl 0 rfl) ?_
  refine lv_aload_n hx hb dX10_add_1 rfl (lv_at hl 0 rfl) ?_
  refine va_get (D := (dC, dI)) (ci := 12) (v := .long s0) (C := RX10) (T := TX10) (N := 7) hx hb hts hiX10 hown hK hP 0 rfl rfl 6 (by decide) (hts (.fieldLink RX10 261 "HaltingaleModel" "sum" "J") (by decide +kernel)) (fun _ h9 => h9) rfl dX10_add_2 ?_
  refine lv_ldc2 (v := 31) hx hb hown (hts (.constantLong RX10 265 (31)) (by decide +kernel)) dX10_add_5 ?_
  refine lv_lmul hx hb dX10_add_8 ?_
  refine lv_iload_n hx hb dX10_add_9 rfl (lv_at hl 1 rfl) ?_
  refine lv_i2l (v := (p0).toInt64) hx hb dX10_add_10 rfl ?_
  refine lv_ladd hx hb dX10_add_11 ?_
  refine lv_topl (fun y_2 ey_2 => ?_)
  obtain rfl : s1 = y_2 := (ey_2.trans hs).symm
  refine va_put (D := (dC, dI)) (ci := 12) (v := .long s1) (ty := .long) (C := RX10) (T := TX10) (N := 7) hx hb hts hiX10 tyX10 tyX10_ok nmX10 hown hK hP hD hS 0 rfl rfl 6 (by decide) (hts (.fieldLink RX10 261 "HaltingaleModel" "sum" "J") (by decide +kernel)) (fun _ h9 => h9) rfl (by decide +kernel) rfl rfl (Nat.le_of_ble_eq_true rfl) dX10_add_12 (fun H locs hP hD hS => ?_)
  have hP : va_P (dC, dI) vwCl [(m0, .inr (12, [.int 0, .ref l1, .ref l2, .int 0, .int 0, .int 0, .long s1]))] H := hP
  have hD : va_D A [(m0, .inr (12, [.int 0, .ref l1, .ref l2, .int 0, .int 0, .int 0, .long s1]))] := hD
  have hP9 := hP.sub (ws' := [(m0, .inr (12, [.int 0, .ref l1, .ref l2, .int 0, .int 0, .int 0, .long s1]))]) [0] rfl
  have hD9 := hD.sub (ws' := [(m0, .inr (12, [.int 0, .ref l1, .ref l2, .int 0, .int 0, .int 0, .long s1]))]) [0] (by decide) rfl
  have hK9 := hK.sub (tys' := []) [] rfl
  refine W.widen (k := 0) (n := 0) (Nat.le_of_ble_eq_true rfl) (Nat.le_of_ble_eq_true rfl) ?_
  exact W.vret hx hb hr (fun t ht hW => ⟨⟨(), rfl, trivial, ⟨by rw [ht]; exact hP9, va_K.moved hW.alike hK9, hD9⟩⟩, hS.F ht⟩) hS.2.2 dX10_add_15

def zs_c_X10_digest : List Cond := .code yX10_digest cX10_digest 5 (some .long) :: (([.fieldLink RX10 19 "HaltingaleModel" "thrown" "I", .constantLong RX10 267 (58237), .fieldLink RX10 261 "HaltingaleModel" "sum" "J", .code yX10_manyNow cX10_manyNow 6 (some .int), .arrayClass .int, .fieldLink RX10 10 "HaltingaleModel" "machines" "Ljava/util/ArrayList;", .code yJx4a65c_iterator_32c93 cJx4a65c_iterator_32c93 1 (some (.object "java/util/Iterator")), .classLink RJx4a65c 267 RJx35411, .instantiable RJx35411 4, .initialized RJx35411, .code yJx35411_init_45d68 cJx35411_init_45d68 2 none, .fieldLink RJx35411 1 "java/util/ArrayList$Itr" "this$0" "Ljava/util/ArrayList;", .methodLink RJx35411 7 objectInit, .instanceMethod objectInit, .code objectInit ⟨#[0xb1]⟩ 1 none, .fieldLink RJx35411 13 "java/util/ArrayList$Itr" "lastRet" "I", .sameField "java/util/ArrayList" "java/util/AbstractList" "modCount" "I", .fieldLink RJx35411 17 "java/util/ArrayList" "modCount" "I", .fieldLink RJx35411 22 "java/util/ArrayList$Itr" "expectedModCount" "I", .methodLink RJx4a65c 269 yJx35411_init_45d68, .instanceMethod yJx35411_init_45d68, .methodLink RX10 158 yJx4a65c_iterator_32c93, .instanceMethod yJx4a65c_iterator_32c93, .initialized RJx4a65c, .selects RJx4a65c yJx4a65c_iterator_32c93 yJx4a65c_iterator_32c93, .code yJx35411_hasNext_aae02 cJx35411_hasNext_aae02 1 (some .boolean), .fieldLink RJx35411 25 "java/util/ArrayList$Itr" "cursor" "I", .methodLink RX10 162 ⟨"java/util/Iterator", "hasNext", "()Z"⟩, .instanceMethod yJx35411_hasNext_aae02, .selects RJx35411 ⟨"java/util/Iterator", "hasNext", "()Z"⟩ yJx35411_hasNext_aae02, .code yJx4a65c_size_8abf5 cJx4a65c_size_8abf5 1 (some .int), .fieldLink RJx4a65c 48 "java/util/ArrayList" "size" "I", .methodLink RX10 23 yJx4a65c_size_8abf5, .instanceMethod yJx4a65c_size_8abf5, .selects RJx4a65c yJx4a65c_size_8abf5 yJx4a65c_size_8abf5, .fieldLink RX10 16 "HaltingaleModel" "tags" "Ljava/util/ArrayList;", .fieldLink RX10 191 "HaltingaleModel" "given" "I", .fieldLink RX10 194 "HaltingaleModel" "taken" "I", .fieldLink RX10 67 "HaltingaleModel" "back" "I", .methodLink RX10 258 yX10_manyNow, .instanceMethod yX10_manyNow, .initialized RX10, .selects RX10 yX10_manyNow yX10_manyNow, .code yX10_add cX10_add 2 none, .constantLong RX10 265 (31), .methodLink RX10 269 yX10_add, .instanceMethod yX10_add, .selects RX10 yX10_add yX10_add, .code yX10_championNow cX10_championNow 7 (some .int), .methodLink RX10 243 yX10_championNow, .instanceMethod yX10_championNow, .selects RX10 yX10_championNow yX10_championNow] : List Cond) ++ wsX100 ++ wsJx354110 ++ wsJx4a65c0)
set_option maxHeartbeats 4000000 in
set_option maxRecDepth 100000 in
/-- the digest of nothing -/
theorem c_X10_digest (l : Launch) (hnt : l.stackTraces = false) (dC : Nat → ClassId) (dI : Nat → Nat → Nat) (a0 : Nat) (m0 : Nat) (l1 : Nat) (l2 : Nat) (sz : Nat)  : Met l yX10_digest zs_c_X10_digest ({ frames := 4, cells := 34, slots := 224, locals := 78 }) (va_Pc [.ref m0] (fun U => U.heap.size = sz ∧ va_P (dC, dI) vwCl [(m0, .inr (12, [.int 0, .ref l1, .ref l2, .int 0, .int 0, .int 0, .long 0])), (l1, .inr (1, [.int 0, .ref a0, .int 0])), (l2, .inr (1, [.int 0, .ref a0, .int 0]))] U.heap ∧ va_K (dC, dI) vwCl [] U ∧ va_D (fun _ => True) [(m0, .inr (12, [.int 0, .ref l1, .ref l2, .int 0, .int 0, .int 0, .long 0])), (l1, .inr (1, [.int 0, .ref a0, .int 0])), (l2, .inr (1, [.int 0, .ref a0, .int 0]))] ∧ zB a0 (va_A [(m0, .inr (12, [.int 0, .ref l1, .ref l2, .int 0, .int 0, .int 0, .long 0])), (l1, .inr (1, [.int 0, .ref a0, .int 0])), (l2, .inr (1, [.int 0, .ref a0, .int 0]))] sz) U U.heap)) (va_Ql (fun (r : Int64) (_ : Unit) => r = 483314258739949443) (fun _ t => va_P (dC, dI) vwCl [(m0, .inr (12, [.int 0, .ref l1, .ref l2, .int 0, .int 0, .int 0, .long 483314258739949443]))] t.heap ∧ va_K (dC, dI) vwCl [] t ∧ va_D (va_A [(m0, .inr (12, [.int 0, .ref l1, .ref l2, .int 0, .int 0, .int 0, .long 0])), (l1, .inr (1, [.int 0, .ref a0, .int 0])), (l2, .inr (1, [.int 0, .ref a0, .int 0]))] sz) [(m0, .inr (12, [.int 0, .ref l1, .ref l2, .int 0, .int 0, .int 0, .long 483314258739949443]))]) (va_A [(m0, .inr (12, [.int 0, .ref l1, .ref l2, .int 0, .int 0, .int 0, .long 0])), (l1, .inr (1, [.int 0, .ref a0, .int 0])), (l2, .inr (1, [.int 0, .ref a0, .int 0]))] sz)) 34 224 (va_A [(m0, .inr (12, [.int 0, .ref l1, .ref l2, .int 0, .int 0, .int 0, .long 0])), (l1, .inr (1, [.int 0, .ref a0, .int 0])), (l2, .inr (1, [.int 0, .ref a0, .int 0]))] sz) := by
  refine Met.ofW (cc := cX10_digest) (maxL := 5) (ret := (some .long)) (by decide) rfl ?_
  intro p e s m args below meth c s₁ B hml hv
  obtain ⟨rfl, hsz, hP, hK, hD0, hZ⟩ := hv
  have hx := B.exec
  have hb := B.bytes
  have hr := B.returns
  have hts := atoms_spec (ws := zs_c_X10_digest) B.pre
  have hown : s.vm.findClass RX10 = some m.cls := findClass_of_methodNamed B.named
  have hlocks := B.notSynchronized
  have hiX10 : ∀ w ∈ wsX100, w ∈ zs_c_X10_digest := by decide +kernel
  subst hsz
  have hD := hD0.self (sz := s.heap.size)
  generalize hAe : va_A [(m0, .inr (12, [.int 0, .ref l1, .ref l2, .int 0, .int 0, .int 0, .long 0])), (l1, .inr (1, [.int 0, .ref a0, .int 0])), (l2, .inr (1, [.int 0, .ref a0, .int 0]))] s.heap.size = A at hD hZ ⊢
  have hA : ∀ q : Nat, s.heap.size ≤ q → A q := fun q h => by rw [← hAe]; exact Or.inr h
  have hS : va_S A s.heap s.heap [] := va_S.rf
  have hl := lv_entry ([.ref m0]) (n := 5) (Nat.le_of_ble_eq_true rfl)
  rw [lg_entry_eq]
  generalize (lg_sl ([.ref m0]) ++ List.replicate (5 - (lg_sl ([.ref m0])).length) Slot.unset).toArray = ls at hl ⊢
  have hl : lv_has ls 5 [(0, .ref m0)] := hl
  refine lv_aload_n hx hb dX10_digest_0 rfl (lv_at hl 0 rfl) ?_
  refine lv_iconst (v := 0) hx hb dX10_digest_1 (by decide) ?_
  refine va_put (D := (dC, dI)) (ci := 12) (v := .int 0) (ty := .int) (C := RX10) (T := TX10) (N := 7) hx hb hts hiX10 tyX10 tyX10_ok nmX10 hown hK hP hD hS 0 rfl rfl 0 (by decide) (hts (.fieldLink RX10 19 "HaltingaleModel" "thrown" "I") (by decide +kernel)) (fun _ h9 => h9) rfl (by decide +kernel) rfl rfl (Nat.le_of_ble_eq_true rfl) dX10_digest_2 (fun H locs hP hD hS => ?_)
  have hP : va_P (dC, dI) vwCl [(m0, .inr (12, [.int 0, .ref l1, .ref l2, .int 0, .int 0, .int 0, .long 0])), (l1, .inr (1, [.int 0, .ref a0, .int 0])), (l2, .inr (1, [.int 0, .ref a0, .int 0]))] H := hP
  have hD : va_D A [(m0, .inr (12, [.int 0, .ref l1, .ref l2, .int 0, .int 0, .int 0, .long 0])), (l1, .inr (1, [.int 0, .ref a0, .int 0])), (l2, .inr (1, [.int 0, .ref a0, .int 0]))] := hD
  refine lv_aload_n hx hb dX10_digest_5 rfl (lv_at hl 0 rfl) ?_
  refine lv_ldc2 (v := 58237) hx hb hown (hts (.constantLong RX10 267 (58237)) (by decide +kernel)) dX10_digest_6 ?_
  refine va_put (D := (dC, dI)) (ci := 12) (v := .long 58237) (ty := .long) (C := RX10) (T := TX10) (N := 7) hx hb hts hiX10 tyX10 tyX10_ok nmX10 hown hK hP hD hS 0 rfl rfl 6 (by decide) (hts (.fieldLink RX10 261 "HaltingaleModel" "sum" "J") (by decide +kernel)) (fun _ h9 => h9) rfl (by decide +kernel) rfl rfl (Nat.le_of_ble_eq_true rfl) dX10_digest_9 (fun H locs hP hD hS => ?_)
  have hP : va_P (dC, dI) vwCl [(m0, .inr (12, [.int 0, .ref l1, .ref l2, .int 0, .int 0, .int 0, .long 58237])), (l1, .inr (1, [.int 0, .ref a0, .int 0])), (l2, .inr (1, [.int 0, .ref a0, .int 0]))] H := hP
  have hD : va_D A [(m0, .inr (12, [.int 0, .ref l1, .ref l2, .int 0, .int 0, .int 0, .long 58237])), (l1, .inr (1, [.int 0, .ref a0, .int 0])), (l2, .inr (1, [.int 0, .ref a0, .int 0]))] := hD
  refine lv_iconst (v := 0) hx hb dX10_digest_12 (by decide) ?_
  refine lv_istore_n (lv' := [(1, .int 0), (0, .ref m0)]) hx hb dX10_digest_13 rfl hl (by decide) rfl (fun ls hl => ?_)
  refine lv_iload_n hx hb dX10_digest_14 rfl (lv_at hl 0 rfl) ?_
  refine lv_bipush (v := 11) hx hb dX10_digest_15 (by decide) ?_
  refine lv_icmp_ge (tgt := 35) hx hb dX10_digest_17 (by decide) (fun c_1 => ?_) (fun c_1 => ?_)
  · (first | exact absurd c_1 (by decide) | exact absurd (by decide) c_1)
  refine lv_aload_n hx hb dX10_digest_20 rfl (lv_at hl 1 rfl) ?_
  refine lv_aload_n hx hb dX10_digest_21 rfl (lv_at hl 1 rfl) ?_
  refine lv_iload_n hx hb dX10_digest_22 rfl (lv_at hl 0 rfl) ?_
  have hPc := hP.sub (ws' := [(m0, .inr (12, [.int 0, .ref l1, .ref l2, .int 0, .int 0, .int 0, .long 58237])), (l1, .inr (1, [.int 0, .ref a0, .int 0])), (l2, .inr (1, [.int 0, .ref a0, .int 0]))]) [0, 1, 2] rfl
  have hDc := hD.sub (ws' := [(m0, .inr (12, [.int 0, .ref l1, .ref l2, .int 0, .int 0, .int 0, .long 58237])), (l1, .inr (1, [.int 0, .ref a0, .int 0])), (l2, .inr (1, [.int 0, .ref a0, .int 0]))]) [0, 1, 2] (by decide) rfl
  have hKc := hK.sub (tys' := []) [] rfl
  have hFc := va_free (wc := [(m0, .inr (12, [.int 0, .ref l1, .ref l2, .int 0, .int 0, .int 0, .long 58237])), (l1, .inr (1, [.int 0, .ref a0, .int 0])), (l2, .inr (1, [.int 0, .ref a0, .int 0]))]) hD hS hA [0, 1, 2] rfl
  have hZc := ((hZ.kept hS.2.1).narrow hFc)
  refine va_calli (va_runV (As := [.int 0]) (rest := [.ref m0]) ⟨hx, hb, hml, hown, hts⟩ (c_X10_manyNow_0 l hnt dC dI a0 m0 l1 l2 58237 H.size ) (cwV 1 hts (goodIn_of _ (by decide +kernel)) rfl rfl rfl (by decide +kernel) ⟨Nat.le_of_ble_eq_true rfl, Nat.le_of_ble_eq_true rfl⟩) ⟨fun a U g mk q => by obtain ⟨q0, q1, qP, qK, qD, qZ⟩ := q; exact ⟨q0, q1, qP, va_K.moved (u := U) (U := U.calling g mk a) (Vm.Alike.refl U.vm) qK, qD, qZ.call⟩, va_recv hKc hPc (ci := 12) (q0 := 0) rfl rfl, fun U hU hW => ⟨rfl, by rw [hU], by rw [hU]; exact hPc, va_K.moved hW.alike hKc, hDc.weaken (fun _ _ _ _ => trivial), by rw [hU]; exact hZc.warm hW⟩⟩ rfl rfl hl.1 rfl (lv_room (Nat.le_of_ble_eq_true rfl)) dX10_digest_23 ⟨Nat.le_of_ble_eq_true rfl, Nat.le_of_ble_eq_true rfl⟩) hS (fun q _ h => hFc q h) hFc (fun r_2 u t H1 locs ht hvm hw hB hz1 hk1 hS => ?_)
  obtain ⟨hP1, hK1, hD1⟩ := hB
  rw [ht] at hP1
  have hK1 := va_K.moved hvm.symm hK1
  obtain ⟨hP, hD⟩ := va_join (wr := []) (w1 := [(m0, .inr (12, [.int 0, .ref l1, .ref l2, .int 0, .int 0, .int 0, .long 58237])), (l1, .inr (1, [.int 0, .ref a0, .int 0])), (l2, .inr (1, [.int 0, .ref a0, .int 0]))]) hP hD [0, 1, 2] [] rfl rfl (by decide) (by decide) hk1 hFc hP1 hD1
  have hK := (hK.sub (tys' := []) [] rfl).app hK1
  generalize H1 = H at hP hS ⊢
  have hP : va_P (dC, dI) vwCl [(m0, .inr (12, [.int 0, .ref l1, .ref l2, .int 0, .int 0, .int 0, .long 58237])), (l1, .inr (1, [.int 0, .ref a0, .int 0])), (l2, .inr (1, [.int 0, .ref a0, .int 0]))] H := hP
  have hD : va_D A [(m0, .inr (12, [.int 0, .ref l1, .ref l2, .int 0, .int 0, .int 0, .long 58237])), (l1, .inr (1, [.int 0, .ref a0, .int 0])), (l2, .inr (1, [.int 0, .ref a0, .int 0]))] := hD
  have hK : va_K (dC, dI) vwCl [] s := hK
  refine W.widen (k := 3) (n := 20) (Nat.le_of_ble_eq_true rfl) (Nat.le_of_ble_eq_true rfl) ?_
  obtain rfl : r_2 = 0 := hw
  have hPc := hP.sub (ws' := [(m0, .inr (12, [.int 0, .ref l1, .ref l2, .int 0, .int 0, .int 0, .long 58237]))]) [0] rfl
  have hDc := hD.sub (ws' := [(m0, .inr (12, [.int 0, .ref l1, .ref l2, .int 0, .int 0, .int 0, .long 58237]))]) [0] (by decide) rfl
  have hKc := hK.sub (tys' := []) [] rfl
  have hFc := va_free (wc := [(m0, .inr (12, [.int 0, .ref l1, .ref l2, .int 0, .int 0, .int 0, .long 58237]))]) hD hS hA [0] rfl
  have hZc := ((hZ.kept hS.2.1).narrow hFc)
  refine va_callv (va_runV (As := [.int 0]) (rest := []) ⟨hx, hb, hml, hown, hts⟩ (c_X10_add l hnt dC dI a0 m0 l1 l2 0 58237 1805347 H.size (by decide +kernel)) (cwV 1 hts (goodIn_of _ (by decide +kernel)) rfl rfl rfl (by decide +kernel) ⟨Nat.le_of_ble_eq_true rfl, Nat.le_of_ble_eq_true rfl⟩) ⟨fun a U g mk q => by obtain ⟨q0, q1, qP, qK, qD, qZ⟩ := q; exact ⟨q0, q1, qP, va_K.moved (u := U) (U := U.calling g mk a) (Vm.Alike.refl U.vm) qK, qD, qZ.call⟩, va_recv hKc hPc (ci := 12) (q0 := 0) rfl rfl, fun U hU hW => ⟨rfl, by rw [hU], by rw [hU]; exact hPc, va_K.moved hW.alike hKc, hDc.weaken (fun _ _ _ _ => trivial), by rw [hU]; exact hZc.warm hW⟩⟩ rfl rfl hl.1 rfl (lv_room (Nat.le_of_ble_eq_true rfl)) dX10_digest_26 ⟨Nat.le_of_ble_eq_true rfl, Nat.le_of_ble_eq_true rfl⟩) hS (fun q _ h => hFc q h) hFc (fun u t H1 locs ht hvm hw hB hz1 hk1 hS => ?_)
  obtain ⟨hP1, hK1, hD1⟩ := hB
  rw [ht] at hP1
  have hK1 := va_K.moved hvm.symm hK1
  obtain ⟨hP, hD⟩ := va_join (wr := [(l1, .inr (1, [.int 0, .ref a0, .int 0])), (l2, .inr (1, [.int 0, .ref a0, .int 0]))]) (w1 := [(m0, .inr (12, [.int 0, .ref l1, .ref l2, .int 0, .int 0, .int 0, .long 1805347]))]) hP hD [0] [1, 2] rfl rfl (by decide) (by decide) hk1 hFc hP1 hD1
  have hK := (hK.sub (tys' := []) [] rfl).app hK1
  generalize H1 = H at hP hS ⊢
  have hP : va_P (dC, dI) vwCl [(l1, .inr (1, [.int 0, .ref a0, .int 0])), (l2, .inr (1, [.int 0, .ref a0, .int 0])), (m0, .inr (12, [.int 0, .ref l1, .ref l2, .int 0, .int 0, .int 0, .long 1805347]))] H := hP
  have hD : va_D A [(l1, .inr (1, [.int 0, .ref a0, .int 0])), (l2, .inr (1, [.int 0, .ref a0, .int 0])), (m0, .inr (12, [.int 0, .ref l1, .ref l2, .int 0, .int 0, .int 0, .long 1805347]))] := hD
  have hK : va_K (dC, dI) vwCl [] s := hK
  refine W.widen (k := 3) (n := 20) (Nat.le_of_ble_eq_true rfl) (Nat.le_of_ble_eq_true rfl) ?_
  refine lv_iinc (v := 1) (lv' := [(1, .int 1), (0, .ref m0)]) hx hb dX10_digest_29 hl (k := 0) rfl (by decide) (by decide) rfl (fun ls hl => ?_)
  refine lv_goto (tgt := 14) hx hb dX10_digest_32 (by decide) ?_
  refine lv_iload_n hx hb dX10_digest_14 rfl (lv_at hl 0 rfl) ?_
  refine lv_bipush (v := 11) hx hb dX10_digest_15 (by decide) ?_
  refine lv_icmp_ge (tgt := 35) hx hb dX10_digest_17 (by decide) (fun c_4 => ?_) (fun c_4 => ?_)
  · (first | exact absurd c_4 (by decide) | exact absurd (by decide) c_4)
  refine lv_aload_n hx hb dX10_digest_20 rfl (lv_at hl 1 rfl) ?_
  refine lv_aload_n hx hb dX10_digest_21 rfl (lv_at hl 1 rfl) ?_
  refine lv_iload_n hx hb dX10_digest_22 rfl (lv_at hl 0 rfl) ?_
  have hPc := hP.sub (ws' := [(m0, .inr (12, [.int 0, .ref l1, .ref l2, .int 0, .int 0, .int 0, .long 1805347])), (l1, .inr (1, [.int 0, .ref a0, .int 0])), (l2, .inr (1, [.int 0, .ref a0, .int 0]))]) [2, 0, 1] rfl
  have hDc := hD.sub (ws' := [(m0, .inr (12, [.int 0, .ref l1, .ref l2, .int 0, .int 0, .int 0, .long 1805347])), (l1, .inr (1, [.int 0, .ref a0, .int 0])), (l2, .inr (1, [.int 0, .ref a0, .int 0]))]) [2, 0, 1] (by decide) rfl
  have hKc := hK.sub (tys' := []) [] rfl
  have hFc := va_free (wc := [(m0, .inr (12, [.int 0, .ref l1, .ref l2, .int 0, .int 0, .int 0, .long 1805347])), (l1, .inr (1, [.int 0, .ref a0, .int 0])), (l2, .inr (1, [.int 0, .ref a0, .int 0]))]) hD hS hA [2, 0, 1] rfl
  have hZc := ((hZ.kept hS.2.1).narrow hFc)
  refine va_calli (va_runV (As := [.int 1]) (rest := [.ref m0]) ⟨hx, hb, hml, hown, hts⟩ (c_X10_manyNow_1 l hnt dC dI a0 m0 l1 l2 1805347 H.size ) (cwV 1 hts (goodIn_of _ (by decide +kernel)) rfl rfl rfl (by decide +kernel) ⟨Nat.le_of_ble_eq_true rfl, Nat.le_of_ble_eq_true rfl⟩) ⟨fun a U g mk q => by obtain ⟨q0, q1, qP, qK, qD, qZ⟩ := q; exact ⟨q0, q1, qP, va_K.moved (u := U) (U := U.calling g mk a) (Vm.Alike.refl U.vm) qK, qD, qZ.call⟩, va_recv hKc hPc (ci := 12) (q0 := 0) rfl rfl, fun U hU hW => ⟨rfl, by rw [hU], by rw [hU]; exact hPc, va_K.moved hW.alike hKc, hDc.weaken (fun _ _ _ _ => trivial), by rw [hU]; exact hZc.warm hW⟩⟩ rfl rfl hl.1 rfl (lv_room (Nat.le_of_ble_eq_true rfl)) dX10_digest_23 ⟨Nat.le_of_ble_eq_true rfl, Nat.le_of_ble_eq_true rfl⟩) hS (fun q _ h => hFc q h) hFc (fun r_5 u t H1 locs ht hvm hw hB hz1 hk1 hS => ?_)
  obtain ⟨hP1, hK1, hD1⟩ := hB
  rw [ht] at hP1
  have hK1 := va_K.moved hvm.symm hK1
  obtain ⟨hP, hD⟩ := va_join (wr := []) (w1 := [(m0, .inr (12, [.int 0, .ref l1, .ref l2, .int 0, .int 0, .int 0, .long 1805347])), (l1, .inr (1, [.int 0, .ref a0, .int 0])), (l2, .inr (1, [.int 0, .ref a0, .int 0]))]) hP hD [2, 0, 1] [] rfl rfl (by decide) (by decide) hk1 hFc hP1 hD1
  have hK := (hK.sub (tys' := []) [] rfl).app hK1
  generalize H1 = H at hP hS ⊢
  have hP : va_P (dC, dI) vwCl [(m0, .inr (12, [.int 0, .ref l1, .ref l2, .int 0, .int 0, .int 0, .long 1805347])), (l1, .inr (1, [.int 0, .ref a0, .int 0])), (l2, .inr (1, [.int 0, .ref a0, .int 0]))] H := hP
  have hD : va_D A [(m0, .inr (12, [.int 0, .ref l1, .ref l2, .int 0, .int 0, .int 0, .long 1805347])), (l1, .inr (1, [.int 0, .ref a0, .int 0])), (l2, .inr (1, [.int 0, .ref a0, .int 0]))] := hD
  have hK : va_K (dC, dI) vwCl [] s := hK
  refine W.widen (k := 6) (n := 40) (Nat.le_of_ble_eq_true rfl) (Nat.le_of_ble_eq_true rfl) ?_
  obtain rfl : r_5 = 0 := hw
  have hPc := hP.sub (ws' := [(m0, .inr (12, [.int 0, .ref l1, .ref l2, .int 0, .int 0, .int 0, .long 1805347]))]) [0] rfl
  have hDc := hD.sub (ws' := [(m0, .inr (12, [.int 0, .ref l1, .ref l2, .int 0, .int 0, .int 0, .long 1805347]))]) [0] (by decide) rfl
  have hKc := hK.sub (tys' := []) [] rfl
  have hFc := va_free (wc := [(m0, .inr (12, [.int 0, .ref l1, .ref l2, .int 0, .int 0, .int 0, .long 1805347]))]) hD hS hA [0] rfl
  have hZc := ((hZ.kept hS.2.1).narrow hFc)
  refine va_callv (va_runV (As := [.int 0]) (rest := []) ⟨hx, hb, hml, hown, hts⟩ (c_X10_add l hnt dC dI a0 m0 l1 l2 0 1805347 55965757 H.size (by decide +kernel)) (cwV 1 hts (goodIn_of _ (by decide +kernel)) rfl rfl rfl (by decide +kernel) ⟨Nat.le_of_ble_eq_true rfl, Nat.le_of_ble_eq_true rfl⟩) ⟨fun a U g mk q => by obtain ⟨q0, q1, qP, qK, qD, qZ⟩ := q; exact ⟨q0, q1, qP, va_K.moved (u := U) (U := U.calling g mk a) (Vm.Alike.refl U.vm) qK, qD, qZ.call⟩, va_recv hKc hPc (ci := 12) (q0 := 0) rfl rfl, fun U hU hW => ⟨rfl, by rw [hU], by rw [hU]; exact hPc, va_K.moved hW.alike hKc, hDc.weaken (fun _ _ _ _ => trivial), by rw [hU]; exact hZc.warm hW⟩⟩ rfl rfl hl.1 rfl (lv_room (Nat.le_of_ble_eq_true rfl)) dX10_digest_26 ⟨Nat.le_of_ble_eq_true rfl, Nat.le_of_ble_eq_true rfl⟩) hS (fun q _ h => hFc q h) hFc (fun u t H1 locs ht hvm hw hB hz1 hk1 hS => ?_)
  obtain ⟨hP1, hK1, hD1⟩ := hB
  rw [ht] at hP1
  have hK1 := va_K.moved hvm.symm hK1
  obtain ⟨hP, hD⟩ := va_join (wr := [(l1, .inr (1, [.int 0, .ref a0, .int 0])), (l2, .inr (1, [.int 0, .ref a0, .int 0]))]) (w1 := [(m0, .inr (12, [.int 0, .ref l1, .ref l2, .int 0, .int 0, .int 0, .long 55965757]))]) hP hD [0] [1, 2] rfl rfl (by decide) (by decide) hk1 hFc hP1 hD1
  have hK := (hK.sub (tys' := []) [] rfl).app hK1
  generalize H1 = H at hP hS ⊢
  have hP : va_P (dC, dI) vwCl [(l1, .inr (1, [.int 0, .ref a0, .int 0])), (l2, .inr (1, [.int 0, .ref a0, .int 0])), (m0, .inr (12, [.int 0, .ref l1, .ref l2, .int 0, .int 0, .int 0, .long 55965757]))] H := hP
  have hD : va_D A [(l1, .inr (1, [.int 0, .ref a0, .int 0])), (l2, .inr (1, [.int 0, .ref a0, .int 0])), (m0, .inr (12, [.int 0, .ref l1, .ref l2, .int 0, .int 0, .int 0, .long 55965757]))] := hD
  have hK : va_K (dC, dI) vwCl [] s := hK
  refine W.widen (k := 6) (n := 40) (Nat.le_of_ble_eq_true rfl) (Nat.le_of_ble_eq_true rfl) ?_
  refine lv_iinc (v := 2) (lv' := [(1, .int 2), (0, .ref m0)]) hx hb dX10_digest_29 hl (k := 0) rfl (by decide) (by decide) rfl (fun ls hl => ?_)
  refine lv_goto (tgt := 14) hx hb dX10_digest_32 (by decide) ?_
  refine lv_iload_n hx hb dX10_digest_14 rfl (lv_at hl 0 rfl) ?_
  refine lv_bipush (v := 11) hx hb dX10_digest_15 (by decide) ?_
  refine lv_icmp_ge (tgt := 35) hx hb dX10_digest_17 (by decide) (fun c_7 => ?_) (fun c_7 => ?_)
  · (first | exact absurd c_7 (by decide) | exact absurd (by decide) c_7)
  refine lv_aload_n hx hb dX10_digest_20 rfl (lv_at hl 1 rfl) ?_
  refine lv_aload_n hx hb dX10_digest_21 rfl (lv_at hl 1 rfl) ?_
  refine lv_iload_n hx hb dX10_digest_22 rfl (lv_at hl 0 rfl) ?_
  have hPc := hP.sub (ws' := [(m0, .inr (12, [.int 0, .ref l1, .ref l2, .int 0, .int 0, .int 0, .long 55965757])), (l1, .inr (1, [.int 0, .ref a0, .int 0])), (l2, .inr (1, [.int 0, .ref a0, .int 0]))]) [2, 0, 1] rfl
  have hDc := hD.sub (ws' := [(m0, .inr (12, [.int 0, .ref l1, .ref l2, .int 0, .int 0, .int 0, .long 55965757])), (l1, .inr (1, [.int 0, .ref a0, .int 0])), (l2, .inr (1, [.int 0, .ref a0, .int 0]))]) [2, 0, 1] (by decide) rfl
  have hKc := hK.sub (tys' := []) [] rfl
  have hFc := va_free (wc := [(m0, .inr (12, [.int 0, .ref l1, .ref l2, .int 0, .int 0, .int 0, .long 55965757])), (l1, .inr (1, [.int 0, .ref a0, .int 0])), (l2, .inr (1, [.int 0, .ref a0, .int 0]))]) hD hS hA [2, 0, 1] rfl
  have hZc := ((hZ.kept hS.2.1).narrow hFc)
  refine va_calli (va_runV (As := [.int 2]) (rest := [.ref m0]) ⟨hx, hb, hml, hown, hts⟩ (c_X10_manyNow_2 l hnt dC dI a0 m0 l1 l2 55965757 H.size ) (cwV 1 hts (goodIn_of _ (by decide +kernel)) rfl rfl rfl (by decide +kernel) ⟨Nat.le_of_ble_eq_true rfl, Nat.le_of_ble_eq_true rfl⟩) ⟨fun a U g mk q => by obtain ⟨q0, q1, qP, qK, qD, qZ⟩ := q; exact ⟨q0, q1, qP, va_K.moved (u := U) (U := U.calling g mk a) (Vm.Alike.refl U.vm) qK, qD, qZ.call⟩, va_recv hKc hPc (ci := 12) (q0 := 0) rfl rfl, fun U hU hW => ⟨rfl, by rw [hU], by rw [hU]; exact hPc, va_K.moved hW.alike hKc, hDc.weaken (fun _ _ _ _ => trivial), by rw [hU]; exact hZc.warm hW⟩⟩ rfl rfl hl.1 rfl (lv_room (Nat.le_of_ble_eq_true rfl)) dX10_digest_23 ⟨Nat.le_of_ble_eq_true rfl, Nat.le_of_ble_eq_true rfl⟩) hS (fun q _ h => hFc q h) hFc (fun r_8 u t H1 locs ht hvm hw hB hz1 hk1 hS => ?_)
  obtain ⟨hP1, hK1, hD1⟩ := hB
  rw [ht] at hP1
  have hK1 := va_K.moved hvm.symm hK1
  obtain ⟨hP, hD⟩ := va_join (wr := []) (w1 := [(m0, .inr (12, [.int 0, .ref l1, .ref l2, .int 0, .int 0, .int 0, .long 55965757])), (l1, .inr (1, [.int 0, .ref a0, .int 0])), (l2, .inr (1, [.int 0, .ref a0, .int 0]))]) hP hD [2, 0, 1] [] rfl rfl (by decide) (by decide) hk1 hFc hP1 hD1
  have hK := (hK.sub (tys' := []) [] rfl).app hK1
  generalize H1 = H at hP hS ⊢
  have hP : va_P (dC, dI) vwCl [(m0, .inr (12, [.int 0, .ref l1, .ref l2, .int 0, .int 0, .int 0, .long 55965757])), (l1, .inr (1, [.int 0, .ref a0, .int 0])), (l2, .inr (1, [.int 0, .ref a0, .int 0]))] H := hP
  have hD : va_D A [(m0, .inr (12, [.int 0, .ref l1, .ref l2, .int 0, .int 0, .int 0, .long 55965757])), (l1, .inr (1, [.int 0, .ref a0, .int 0])), (l2, .inr (1, [.int 0, .ref a0, .int 0]))] := hD
  have hK : va_K (dC, dI) vwCl [] s := hK
  refine W.widen (k := 9) (n := 60) (Nat.le_of_ble_eq_true rfl) (Nat.le_of_ble_eq_true rfl) ?_
  obtain rfl : r_8 = 0 := hw
  have hPc := hP.sub (ws' := [(m0, .inr (12, [.int 0, .ref l1, .ref l2, .int 0, .int 0, .int 0, .long 55965757]))]) [0] rfl
  have hDc := hD.sub (ws' := [(m0, .inr (12, [.int 0, .ref l1, .ref l2, .int 0, .int 0, .int 0, .long 55965757]))]) [0] (by decide) rfl
  have hKc := hK.sub (tys' := []) [] rfl
  have hFc := va_free (wc := [(m0, .inr (12, [.int 0, .ref l1, .ref l2, .int 0, .int 0, .int 0, .long 55965757]))]) hD hS hA [0] rfl
  have hZc := ((hZ.kept hS.2.1).narrow hFc)
  refine va_callv (va_runV (As := [.int 0]) (rest := []) ⟨hx, hb, hml, hown, hts⟩ (c_X10_add l hnt dC dI a0 m0 l1 l2 0 55965757 1734938467 H.size (by decide +kernel)) (cwV 1 hts (goodIn_of _ (by decide +kernel)) rfl rfl rfl (by decide +kernel) ⟨Nat.le_of_ble_eq_true rfl, Nat.le_of_ble_eq_true rfl⟩) ⟨fun a U g mk q => by obtain ⟨q0, q1, qP, qK, qD, qZ⟩ := q; exact ⟨q0, q1, qP, va_K.moved (u := U) (U := U.calling g mk a) (Vm.Alike.refl U.vm) qK, qD, qZ.call⟩, va_recv hKc hPc (ci := 12) (q0 := 0) rfl rfl, fun U hU hW => ⟨rfl, by rw [hU], by rw [hU]; exact hPc, va_K.moved hW.alike hKc, hDc.weaken (fun _ _ _ _ => trivial), by rw [hU]; exact hZc.warm hW⟩⟩ rfl rfl hl.1 rfl (lv_room (Nat.le_of_ble_eq_true rfl)) dX10_digest_26 ⟨Nat.le_of_ble_eq_true rfl, Nat.le_of_ble_eq_true rfl⟩) hS (fun q _ h => hFc q h) hFc (fun u t H1 locs ht hvm hw hB hz1 hk1 hS => ?_)
  obtain ⟨hP1, hK1, hD1⟩ := hB
  rw [ht] at hP1
  have hK1 := va_K.moved hvm.symm hK1
  obtain ⟨hP, hD⟩ := va_join (wr := [(l1, .inr (1, [.int 0, .ref a0, .int 0])), (l2, .inr (1, [.int 0, .ref a0, .int 0]))]) (w1 := [(m0, .inr (12, [.int 0, .ref l1, .ref l2, .int 0, .int 0, .int 0, .long 1734938467]))]) hP hD [0] [1, 2] rfl rfl (by decide) (by decide) hk1 hFc hP1 hD1
  have hK := (hK.sub (tys' := []) [] rfl).app hK1
  generalize H1 = H at hP hS ⊢
  have hP : va_P (dC, dI) vwCl [(l1, .inr (1, [.int 0, .ref a0, .int 0])), (l2, .inr (1, [.int 0, .ref a0, .int 0])), (m0, .inr (12, [.int 0, .ref l1, .ref l2, .int 0, .int 0, .int 0, .long 1734938467]))] H := hP
  have hD : va_D A [(l1, .inr (1, [.int 0, .ref a0, .int 0])), (l2, .inr (1, [.int 0, .ref a0, .int 0])), (m0, .inr (12, [.int 0, .ref l1, .ref l2, .int 0, .int 0, .int 0, .long 1734938467]))] := hD
  have hK : va_K (dC, dI) vwCl [] s := hK
  refine W.widen (k := 9) (n := 60) (Nat.le_of_ble_eq_true rfl) (Nat.le_of_ble_eq_true rfl) ?_
  refine lv_iinc (v := 3) (lv' := [(1, .int 3), (0, .ref m0)]) hx hb dX10_digest_29 hl (k := 0) rfl (by decide) (by decide) rfl (fun ls hl => ?_)
  refine lv_goto (tgt := 14) hx hb dX10_digest_32 (by decide) ?_
  refine lv_iload_n hx hb dX10_digest_14 rfl (lv_at hl 0 rfl) ?_
  refine lv_bipush (v := 11) hx hb dX10_digest_15 (by decide) ?_
  refine lv_icmp_ge (tgt := 35) hx hb dX10_digest_17 (by decide) (fun c_10 => ?_) (fun c_10 => ?_)
  · (first | exact absurd c_10 (by decide) | exact absurd (by decide) c_10)
  refine lv_aload_n hx hb dX10_digest_20 rfl (lv_at hl 1 rfl) ?_
  refine lv_aload_n hx hb dX10_digest_21 rfl (lv_at hl 1 rfl) ?_
  refine lv_iload_n hx hb dX10_digest_22 rfl (lv_at hl 0 rfl) ?_
  have hPc := hP.sub (ws' := [(m0, .inr (12, [.int 0, .ref l1, .ref l2, .int 0, .int 0, .int 0, .long 1734938467])), (l1, .inr (1, [.int 0, .ref a0, .int 0])), (l2, .inr (1, [.int 0, .ref a0, .int 0]))]) [2, 0, 1] rfl
  have hDc := hD.sub (ws' := [(m0, .inr (12, [.int 0, .ref l1, .ref l2, .int 0, .int 0, .int 0, .long 1734938467])), (l1, .inr (1, [.int 0, .ref a0, .int 0])), (l2, .inr (1, [.int 0, .ref a0, .int 0]))]) [2, 0, 1] (by decide) rfl
  have hKc := hK.sub (tys' := []) [] rfl
  have hFc := va_free (wc := [(m0, .inr (12, [.int 0, .ref l1, .ref l2, .int 0, .int 0, .int 0, .long 1734938467])), (l1, .inr (1, [.int 0, .ref a0, .int 0])), (l2, .inr (1, [.int 0, .ref a0, .int 0]))]) hD hS hA [2, 0, 1] rfl
  have hZc := ((hZ.kept hS.2.1).narrow hFc)
  refine va_calli (va_runV (As := [.int 3]) (rest := [.ref m0]) ⟨hx, hb, hml, hown, hts⟩ (c_X10_manyNow_3 l hnt dC dI a0 m0 l1 l2 1734938467 H.size ) (cwV 1 hts (goodIn_of _ (by decide +kernel)) rfl rfl rfl (by decide +kernel) ⟨Nat.le_of_ble_eq_true rfl, Nat.le_of_ble_eq_true rfl⟩) ⟨fun a U g mk q => by obtain ⟨q0, q1, qP, qK, qD, qZ⟩ := q; exact ⟨q0, q1, qP, va_K.moved (u := U) (U := U.calling g mk a) (Vm.Alike.refl U.vm) qK, qD, qZ.call⟩, va_recv hKc hPc (ci := 12) (q0 := 0) rfl rfl, fun U hU hW => ⟨rfl, by rw [hU], by rw [hU]; exact hPc, va_K.moved hW.alike hKc, hDc.weaken (fun _ _ _ _ => trivial), by rw [hU]; exact hZc.warm hW⟩⟩ rfl rfl hl.1 rfl (lv_room (Nat.le_of_ble_eq_true rfl)) dX10_digest_23 ⟨Nat.le_of_ble_eq_true rfl, Nat.le_of_ble_eq_true rfl⟩) hS (fun q _ h => hFc q h) hFc (fun r_11 u t H1 locs ht hvm hw hB hz1 hk1 hS => ?_)
  obtain ⟨hP1, hK1, hD1⟩ := hB
  rw [ht] at hP1
  have hK1 := va_K.moved hvm.symm hK1
  obtain ⟨hP, hD⟩ := va_join (wr := []) (w1 := [(m0, .inr (12, [.int 0, .ref l1, .ref l2, .int 0, .int 0, .int 0, .long 1734938467])), (l1, .inr (1, [.int 0, .ref a0, .int 0])), (l2, .inr (1, [.int 0, .ref a0, .int 0]))]) hP hD [2, 0, 1] [] rfl rfl (by decide) (by decide) hk1 hFc hP1 hD1
  have hK := (hK.sub (tys' := []) [] rfl).app hK1
  generalize H1 = H at hP hS ⊢
  have hP : va_P (dC, dI) vwCl [(m0, .inr (12, [.int 0, .ref l1, .ref l2, .int 0, .int 0, .int 0, .long 1734938467])), (l1, .inr (1, [.int 0, .ref a0, .int 0])), (l2, .inr (1, [.int 0, .ref a0, .int 0]))] H := hP
  have hD : va_D A [(m0, .inr (12, [.int 0, .ref l1, .ref l2, .int 0, .int 0, .int 0, .long 1734938467])), (l1, .inr (1, [.int 0, .ref a0, .int 0])), (l2, .inr (1, [.int 0, .ref a0, .int 0]))] := hD
  have hK : va_K (dC, dI) vwCl [] s := hK
  refine W.widen (k := 12) (n := 80) (Nat.le_of_ble_eq_true rfl) (Nat.le_of_ble_eq_true rfl) ?_
  obtain rfl : r_11 = 0 := hw
  have hPc := hP.sub (ws' := [(m0, .inr (12, [.int 0, .ref l1, .ref l2, .int 0, .int 0, .int 0, .long 1734938467]))]) [0] rfl
  have hDc := hD.sub (ws' := [(m0, .inr (12, [.int 0, .ref l1, .ref l2, .int 0, .int 0, .int 0, .long 1734938467]))]) [0] (by decide) rfl
  have hKc := hK.sub (tys' := []) [] rfl
  have hFc := va_free (wc := [(m0, .inr (12, [.int 0, .ref l1, .ref l2, .int 0, .int 0, .int 0, .long 1734938467]))]) hD hS hA [0] rfl
  have hZc := ((hZ.kept hS.2.1).narrow hFc)
  refine va_callv (va_runV (As := [.int 0]) (rest := []) ⟨hx, hb, hml, hown, hts⟩ (c_X10_add l hnt dC dI a0 m0 l1 l2 0 1734938467 53783092477 H.size (by decide +kernel)) (cwV 1 hts (goodIn_of _ (by decide +kernel)) rfl rfl rfl (by decide +kernel) ⟨Nat.le_of_ble_eq_true rfl, Nat.le_of_ble_eq_true rfl⟩) ⟨fun a U g mk q => by obtain ⟨q0, q1, qP, qK, qD, qZ⟩ := q; exact ⟨q0, q1, qP, va_K.moved (u := U) (U := U.calling g mk a) (Vm.Alike.refl U.vm) qK, qD, qZ.call⟩, va_recv hKc hPc (ci := 12) (q0 := 0) rfl rfl, fun U hU hW => ⟨rfl, by rw [hU], by rw [hU]; exact hPc, va_K.moved hW.alike hKc, hDc.weaken (fun _ _ _ _ => trivial), by rw [hU]; exact hZc.warm hW⟩⟩ rfl rfl hl.1 rfl (lv_room (Nat.le_of_ble_eq_true rfl)) dX10_digest_26 ⟨Nat.le_of_ble_eq_true rfl, Nat.le_of_ble_eq_true rfl⟩) hS (fun q _ h => hFc q h) hFc (fun u t H1 locs ht hvm hw hB hz1 hk1 hS => ?_)
  obtain ⟨hP1, hK1, hD1⟩ := hB
  rw [ht] at hP1
  have hK1 := va_K.moved hvm.symm hK1
  obtain ⟨hP, hD⟩ := va_join (wr := [(l1, .inr (1, [.int 0, .ref a0, .int 0])), (l2, .inr (1, [.int 0, .ref a0, .int 0]))]) (w1 := [(m0, .inr (12, [.int 0, .ref l1, .ref l2, .int 0, .int 0, .int 0, .long 53783092477]))]) hP hD [0] [1, 2] rfl rfl (by decide) (by decide) hk1 hFc hP1 hD1
  have hK := (hK.sub (tys' := []) [] rfl).app hK1
  generalize H1 = H at hP hS ⊢
  have hP : va_P (dC, dI) vwCl [(l1, .inr (1, [.int 0, .ref a0, .int 0])), (l2, .inr (1, [.int 0, .ref a0, .int 0])), (m0, .inr (12, [.int 0, .ref l1, .ref l2, .int 0, .int 0, .int 0, .long 53783092477]))] H := hP
  have hD : va_D A [(l1, .inr (1, [.int 0, .ref a0, .int 0])), (l2, .inr (1, [.int 0, .ref a0, .int 0])), (m0, .inr (12, [.int 0, .ref l1, .ref l2, .int 0, .int 0, .int 0, .long 53783092477]))] := hD
  have hK : va_K (dC, dI) vwCl [] s := hK
  refine W.widen (k := 12) (n := 80) (Nat.le_of_ble_eq_true rfl) (Nat.le_of_ble_eq_true rfl) ?_
  refine lv_iinc (v := 4) (lv' := [(1, .int 4), (0, .ref m0)]) hx hb dX10_digest_29 hl (k := 0) rfl (by decide) (by decide) rfl (fun ls hl => ?_)
  refine lv_goto (tgt := 14) hx hb dX10_digest_32 (by decide) ?_
  refine lv_iload_n hx hb dX10_digest_14 rfl (lv_at hl 0 rfl) ?_
  refine lv_bipush (v := 11) hx hb dX10_digest_15 (by decide) ?_
  refine lv_icmp_ge (tgt := 35) hx hb dX10_digest_17 (by decide) (fun c_13 => ?_) (fun c_13 => ?_)
  · (first | exact absurd c_13 (by decide) | exact absurd (by decide) c_13)
  refine lv_aload_n hx hb dX10_digest_20 rfl (lv_at hl 1 rfl) ?_
  refine lv_aload_n hx hb dX10_digest_21 rfl (lv_at hl 1 rfl) ?_
  refine lv_iload_n hx hb dX10_digest_22 rfl (lv_at hl 0 rfl) ?_
  have hPc := hP.sub (ws' := [(m0, .inr (12, [.int 0, .ref l1, .ref l2, .int 0, .int 0, .int 0, .long 53783092477])), (l1, .inr (1, [.int 0, .ref a0, .int 0])), (l2, .inr (1, [.int 0, .ref a0, .int 0]))]) [2, 0, 1] rfl
  have hDc := hD.sub (ws' := [(m0, .inr (12, [.int 0, .ref l1, .ref l2, .int 0, .int 0, .int 0, .long 53783092477])), (l1, .inr (1, [.int 0, .ref a0, .int 0])), (l2, .inr (1, [.int 0, .ref a0, .int 0]))]) [2, 0, 1] (by decide) rfl
  have hKc := hK.sub (tys' := []) [] rfl
  have hFc := va_free (wc := [(m0, .inr (12, [.int 0, .ref l1, .ref l2, .int 0, .int 0, .int 0, .long 53783092477])), (l1, .inr (1, [.int 0, .ref a0, .int 0])), (l2, .inr (1, [.int 0, .ref a0, .int 0]))]) hD hS hA [2, 0, 1] rfl
  have hZc := ((hZ.kept hS.2.1).narrow hFc)
  refine va_calli (va_runV (As := [.int 4]) (rest := [.ref m0]) ⟨hx, hb, hml, hown, hts⟩ (c_X10_manyNow_4 l hnt dC dI a0 m0 l1 l2 53783092477 H.size ) (cwV 1 hts (goodIn_of _ (by decide +kernel)) rfl rfl rfl (by decide +kernel) ⟨Nat.le_of_ble_eq_true rfl, Nat.le_of_ble_eq_true rfl⟩) ⟨fun a U g mk q => by obtain ⟨q0, q1, qP, qK, qD, qZ⟩ := q; exact ⟨q0, q1, qP, va_K.moved (u := U) (U := U.calling g mk a) (Vm.Alike.refl U.vm) qK, qD, qZ.call⟩, va_recv hKc hPc (ci := 12) (q0 := 0) rfl rfl, fun U hU hW => ⟨rfl, by rw [hU], by rw [hU]; exact hPc, va_K.moved hW.alike hKc, hDc.weaken (fun _ _ _ _ => trivial), by rw [hU]; exact hZc.warm hW⟩⟩ rfl rfl hl.1 rfl (lv_room (Nat.le_of_ble_eq_true rfl)) dX10_digest_23 ⟨Nat.le_of_ble_eq_true rfl, Nat.le_of_ble_eq_true rfl⟩) hS (fun q _ h => hFc q h) hFc (fun r_14 u t H1 locs ht hvm hw hB hz1 hk1 hS => ?_)
  obtain ⟨hP1, hK1, hD1⟩ := hB
  rw [ht] at hP1
  have hK1 := va_K.moved hvm.symm hK1
  obtain ⟨hP, hD⟩ := va_join (wr := []) (w1 := [(m0, .inr (12, [.int 0, .ref l1, .ref l2, .int 0, .int 0, .int 0, .long 53783092477])), (l1, .inr (1, [.int 0, .ref a0, .int 0])), (l2, .inr (1, [.int 0, .ref a0, .int 0]))]) hP hD [2, 0, 1] [] rfl rfl (by decide) (by decide) hk1 hFc hP1 hD1
  have hK := (hK.sub (tys' := []) [] rfl).app hK1
  generalize H1 = H at hP hS ⊢
  have hP : va_P (dC, dI) vwCl [(m0, .inr (12, [.int 0, .ref l1, .ref l2, .int 0, .int 0, .int 0, .long 53783092477])), (l1, .inr (1, [.int 0, .ref a0, .int 0])), (l2, .inr (1, [.int 0, .ref a0, .int 0]))] H := hP
  have hD : va_D A [(m0, .inr (12, [.int 0, .ref l1, .ref l2, .int 0, .int 0, .int 0, .long 53783092477])), (l1, .inr (1, [.int 0, .ref a0, .int 0])), (l2, .inr (1, [.int 0, .ref a0, .int 0]))] := hD
  have hK : va_K (dC, dI) vwCl [] s := hK
  refine W.widen (k := 15) (n := 100) (Nat.le_of_ble_eq_true rfl) (Nat.le_of_ble_eq_true rfl) ?_
  obtain rfl : r_14 = 0 := hw
  have hPc := hP.sub (ws' := [(m0, .inr (12, [.int 0, .ref l1, .ref l2, .int 0, .int 0, .int 0, .long 53783092477]))]) [0] rfl
  have hDc := hD.sub (ws' := [(m0, .inr (12, [.int 0, .ref l1, .ref l2, .int 0, .int 0, .int 0, .long 53783092477]))]) [0] (by decide) rfl
  have hKc := hK.sub (tys' := []) [] rfl
  have hFc := va_free (wc := [(m0, .inr (12, [.int 0, .ref l1, .ref l2, .int 0, .int 0, .int 0, .long 53783092477]))]) hD hS hA [0] rfl
  have hZc := ((hZ.kept hS.2.1).narrow hFc)
  refine va_callv (va_runV (As := [.int 0]) (rest := []) ⟨hx, hb, hml, hown, hts⟩ (c_X10_add l hnt dC dI a0 m0 l1 l2 0 53783092477 1667275866787 H.size (by decide +kernel)) (cwV 1 hts (goodIn_of _ (by decide +kernel)) rfl rfl rfl (by decide +kernel) ⟨Nat.le_of_ble_eq_true rfl, Nat.le_of_ble_eq_true rfl⟩) ⟨fun a U g mk q => by obtain ⟨q0, q1, qP, qK, qD, qZ⟩ := q; exact ⟨q0, q1, qP, va_K.moved (u := U) (U := U.calling g mk a) (Vm.Alike.refl U.vm) qK, qD, qZ.call⟩, va_recv hKc hPc (ci := 12) (q0 := 0) rfl rfl, fun U hU hW => ⟨rfl, by rw [hU], by rw [hU]; exact hPc, va_K.moved hW.alike hKc, hDc.weaken (fun _ _ _ _ => trivial), by rw [hU]; exact hZc.warm hW⟩⟩ rfl rfl hl.1 rfl (lv_room (Nat.le_of_ble_eq_true rfl)) dX10_digest_26 ⟨Nat.le_of_ble_eq_true rfl, Nat.le_of_ble_eq_true rfl⟩) hS (fun q _ h => hFc q h) hFc (fun u t H1 locs ht hvm hw hB hz1 hk1 hS => ?_)
  obtain ⟨hP1, hK1, hD1⟩ := hB
  rw [ht] at hP1
  have hK1 := va_K.moved hvm.symm hK1
  obtain ⟨hP, hD⟩ := va_join (wr := [(l1, .inr (1, [.int 0, .ref a0, .int 0])), (l2, .inr (1, [.int 0, .ref a0, .int 0]))]) (w1 := [(m0, .inr (12, [.int 0, .ref l1, .ref l2, .int 0, .int 0, .int 0, .long 1667275866787]))]) hP hD [0] [1, 2] rfl rfl (by decide) (by decide) hk1 hFc hP1 hD1
  have hK := (hK.sub (tys' := []) [] rfl).app hK1
  generalize H1 = H at hP hS ⊢
  have hP : va_P (dC, dI) vwCl [(l1, .inr (1, [.int 0, .ref a0, .int 0])), (l2, .inr (1, [.int 0, .ref a0, .int 0])), (m0, .inr (12, [.int 0, .ref l1, .ref l2, .int 0, .int 0, .int 0, .long 1667275866787]))] H := hP
  have hD : va_D A [(l1, .inr (1, [.int 0, .ref a0, .int 0])), (l2, .inr (1, [.int 0, .ref a0, .int 0])), (m0, .inr (12, [.int 0, .ref l1, .ref l2, .int 0, .int 0, .int 0, .long 1667275866787]))] := hD
  have hK : va_K (dC, dI) vwCl [] s := hK
  refine W.widen (k := 15) (n := 100) (Nat.le_of_ble_eq_true rfl) (Nat.le_of_ble_eq_true rfl) ?_
  refine lv_iinc (v := 5) (lv' := [(1, .int 5), (0, .ref m0)]) hx hb dX10_digest_29 hl (k := 0) rfl (by decide) (by decide) rfl (fun ls hl => ?_)
  refine lv_goto (tgt := 14) hx hb dX10_digest_32 (by decide) ?_
  refine lv_iload_n hx hb dX10_digest_14 rfl (lv_at hl 0 rfl) ?_
  refine lv_bipush (v := 11) hx hb dX10_digest_15 (by decide) ?_
  refine lv_icmp_ge (tgt := 35) hx hb dX10_digest_17 (by decide) (fun c_16 => ?_) (fun c_16 => ?_)
  · (first | exact absurd c_16 (by decide) | exact absurd (by decide) c_16)
  refine lv_aload_n hx hb dX10_digest_20 rfl (lv_at hl 1 rfl) ?_
  refine lv_aload_n hx hb dX10_digest_21 rfl (lv_at hl 1 rfl) ?_
  refine lv_iload_n hx hb dX10_digest_22 rfl (lv_at hl 0 rfl) ?_
  have hPc := hP.sub (ws' := [(m0, .inr (12, [.int 0, .ref l1, .ref l2, .int 0, .int 0, .int 0, .long 1667275866787])), (l1, .inr (1, [.int 0, .ref a0, .int 0])), (l2, .inr (1, [.int 0, .ref a0, .int 0]))]) [2, 0, 1] rfl
  have hDc := hD.sub (ws' := [(m0, .inr (12, [.int 0, .ref l1, .ref l2, .int 0, .int 0, .int 0, .long 1667275866787])), (l1, .inr (1, [.int 0, .ref a0, .int 0])), (l2, .inr (1, [.int 0, .ref a0, .int 0]))]) [2, 0, 1] (by decide) rfl
  have hKc := hK.sub (tys' := []) [] rfl
  have hFc := va_free (wc := [(m0, .inr (12, [.int 0, .ref l1, .ref l2, .int 0, .int 0, .int 0, .long 1667275866787])), (l1, .inr (1, [.int 0, .ref a0, .int 0])), (l2, .inr (1, [.int 0, .ref a0, .int 0]))]) hD hS hA [2, 0, 1] rfl
  have hZc := ((hZ.kept hS.2.1).narrow hFc)
  refine va_calli (va_runV (As := [.int 5]) (rest := [.ref m0]) ⟨hx, hb, hml, hown, hts⟩ (c_X10_manyNow_5 l hnt dC dI a0 m0 l1 l2 1667275866787 H.size ) (cwV 1 hts (goodIn_of _ (by decide +kernel)) rfl rfl rfl (by decide +kernel) ⟨Nat.le_of_ble_eq_true rfl, Nat.le_of_ble_eq_true rfl⟩) ⟨fun a U g mk q => by obtain ⟨q0, q1, qP, qK, qD, qZ⟩ := q; exact ⟨q0, q1, qP, va_K.moved (u := U) (U := U.calling g mk a) (Vm.Alike.refl U.vm) qK, qD, qZ.call⟩, va_recv hKc hPc (ci := 12) (q0 := 0) rfl rfl, fun U hU hW => ⟨rfl, by rw [hU], by rw [hU]; exact hPc, va_K.moved hW.alike hKc, hDc.weaken (fun _ _ _ _ => trivial), by rw [hU]; exact hZc.warm hW⟩⟩ rfl rfl hl.1 rfl (lv_room (Nat.le_of_ble_eq_true rfl)) dX10_digest_23 ⟨Nat.le_of_ble_eq_true rfl, Nat.le_of_ble_eq_true rfl⟩) hS (fun q _ h => hFc q h) hFc (fun r_17 u t H1 locs ht hvm hw hB hz1 hk1 hS => ?_)
  obtain ⟨hP1, hK1, hD1⟩ := hB
  rw [ht] at hP1
  have hK1 := va_K.moved hvm.symm hK1
  obtain ⟨hP, hD⟩ := va_join (wr := []) (w1 := [(m0, .inr (12, [.int 0, .ref l1, .ref l2, .int 0, .int 0, .int 0, .long 1667275866787])), (l1, .inr (1, [.int 0, .ref a0, .int 0])), (l2, .inr (1, [.int 0, .ref a0, .int 0]))]) hP hD [2, 0, 1] [] rfl rfl (by decide) (by decide) hk1 hFc hP1 hD1
  have hK := (hK.sub (tys' := []) [] rfl).app hK1
  generalize H1 = H at hP hS ⊢
  have hP : va_P (dC, dI) vwCl [(m0, .inr (12, [.int 0, .ref l1, .ref l2, .int 0, .int 0, .int 0, .long 1667275866787])), (l1, .inr (1, [.int 0, .ref a0, .int 0])), (l2, .inr (1, [.int 0, .ref a0, .int 0]))] H := hP
  have hD : va_D A [(m0, .inr (12, [.int 0, .ref l1, .ref l2, .int 0, .int 0, .int 0, .long 1667275866787])), (l1, .inr (1, [.int 0, .ref a0, .int 0])), (l2, .inr (1, [.int 0, .ref a0, .int 0]))] := hD
  have hK : va_K (dC, dI) vwCl [] s := hK
  refine W.widen (k := 18) (n := 120) (Nat.le_of_ble_eq_true rfl) (Nat.le_of_ble_eq_true rfl) ?_
  obtain rfl : r_17 = 0 := hw
  have hPc := hP.sub (ws' := [(m0, .inr (12, [.int 0, .ref l1, .ref l2, .int 0, .int 0, .int 0, .long 1667275866787]))]) [0] rfl
  have hDc := hD.sub (ws' := [(m0, .inr (12, [.int 0, .ref l1, .ref l2, .int 0, .int 0, .int 0, .long 1667275866787]))]) [0] (by decide) rfl
  have hKc := hK.sub (tys' := []) [] rfl
  have hFc := va_free (wc := [(m0, .inr (12, [.int 0, .ref l1, .ref l2, .int 0, .int 0, .int 0, .long 1667275866787]))]) hD hS hA [0] rfl
  have hZc := ((hZ.kept hS.2.1).narrow hFc)
  refine va_callv (va_runV (As := [.int 0]) (rest := []) ⟨hx, hb, hml, hown, hts⟩ (c_X10_add l hnt dC dI a0 m0 l1 l2 0 1667275866787 51685551870397 H.size (by decide +kernel)) (cwV 1 hts (goodIn_of _ (by decide +kernel)) rfl rfl rfl (by decide +kernel) ⟨Nat.le_of_ble_eq_true rfl, Nat.le_of_ble_eq_true rfl⟩) ⟨fun a U g mk q => by obtain ⟨q0, q1, qP, qK, qD, qZ⟩ := q; exact ⟨q0, q1, qP, va_K.moved (u := U) (U := U.calling g mk a) (Vm.Alike.refl U.vm) qK, qD, qZ.call⟩, va_recv hKc hPc (ci := 12) (q0 := 0) rfl rfl, fun U hU hW => ⟨rfl, by rw [hU], by rw [hU]; exact hPc, va_K.moved hW.alike hKc, hDc.weaken (fun _ _ _ _ => trivial), by rw [hU]; exact hZc.warm hW⟩⟩ rfl rfl hl.1 rfl (lv_room (Nat.le_of_ble_eq_true rfl)) dX10_digest_26 ⟨Nat.le_of_ble_eq_true rfl, Nat.le_of_ble_eq_true rfl⟩) hS (fun q _ h => hFc q h) hFc (fun u t H1 locs ht hvm hw hB hz1 hk1 hS => ?_)
  obtain ⟨hP1, hK1, hD1⟩ := hB
  rw [ht] at hP1
  have hK1 := va_K.moved hvm.symm hK1
  obtain ⟨hP, hD⟩ := va_join (wr := [(l1, .inr (1, [.int 0, .ref a0, .int 0])), (l2, .inr (1, [.int 0, .ref a0, .int 0]))]) (w1 := [(m0, .inr (12, [.int 0, .ref l1, .ref l2, .int 0, .int 0, .int 0, .long 51685551870397]))]) hP hD [0] [1, 2] rfl rfl (by decide) (by decide) hk1 hFc hP1 hD1
  have hK := (hK.sub (tys' := []) [] rfl).app hK1
  generalize H1 = H at hP hS ⊢
  have hP : va_P (dC, dI) vwCl [(l1, .inr (1, [.int 0, .ref a0, .int 0])), (l2, .inr (1, [.int 0, .ref a0, .int 0])), (m0, .inr (12, [.int 0, .ref l1, .ref l2, .int 0, .int 0, .int 0, .long 51685551870397]))] H := hP
  have hD : va_D A [(l1, .inr (1, [.int 0, .ref a0, .int 0])), (l2, .inr (1, [.int 0, .ref a0, .int 0])), (m0, .inr (12, [.int 0, .ref l1, .ref l2, .int 0, .int 0, .int 0, .long 51685551870397]))] := hD
  have hK : va_K (dC, dI) vwCl [] s := hK
  refine W.widen (k := 18) (n := 120) (Nat.le_of_ble_eq_true rfl) (Nat.le_of_ble_eq_true rfl) ?_
  refine lv_iinc (v := 6) (lv' := [(1, .int 6), (0, .ref m0)]) hx hb dX10_digest_29 hl (k := 0) rfl (by decide) (by decide) rfl (fun ls hl => ?_)
  refine lv_goto (tgt := 14) hx hb dX10_digest_32 (by decide) ?_
  refine lv_iload_n hx hb dX10_digest_14 rfl (lv_at hl 0 rfl) ?_
  refine lv_bipush (v := 11) hx hb dX10_digest_15 (by decide) ?_
  refine lv_icmp_ge (tgt := 35) hx hb dX10_digest_17 (by decide) (fun c_19 => ?_) (fun c_19 => ?_)
  · (first | exact absurd c_19 (by decide) | exact absurd (by decide) c_19)
  refine lv_aload_n hx hb dX10_digest_20 rfl (lv_at hl 1 rfl) ?_
  refine lv_aload_n hx hb dX10_digest_21 rfl (lv_at hl 1 rfl) ?_
  refine lv_iload_n hx hb dX10_digest_22 rfl (lv_at hl 0 rfl) ?_
  have hPc := hP.sub (ws' := [(m0, .inr (12, [.int 0, .ref l1, .ref l2, .int 0, .int 0, .int 0, .long 51685551870397])), (l1, .inr (1, [.int 0, .ref a0, .int 0])), (l2, .inr (1, [.int 0, .ref a0, .int 0]))]) [2, 0, 1] rfl
  have hDc := hD.sub (ws' := [(m0, .inr (12, [.int 0, .ref l1, .ref l2, .int 0, .int 0, .int 0, .long 51685551870397])), (l1, .inr (1, [.int 0, .ref a0, .int 0])), (l2, .inr (1, [.int 0, .ref a0, .int 0]))]) [2, 0, 1] (by decide) rfl
  have hKc := hK.sub (tys' := []) [] rfl
  have hFc := va_free (wc := [(m0, .inr (12, [.int 0, .ref l1, .ref l2, .int 0, .int 0, .int 0, .long 51685551870397])), (l1, .inr (1, [.int 0, .ref a0, .int 0])), (l2, .inr (1, [.int 0, .ref a0, .int 0]))]) hD hS hA [2, 0, 1] rfl
  have hZc := ((hZ.kept hS.2.1).narrow hFc)
  refine va_calli (va_runV (As := [.int 6]) (rest := [.ref m0]) ⟨hx, hb, hml, hown, hts⟩ (c_X10_manyNow_6 l hnt dC dI a0 m0 l1 l2 51685551870397 H.size ) (cwV 1 hts (goodIn_of _ (by decide +kernel)) rfl rfl rfl (by decide +kernel) ⟨Nat.le_of_ble_eq_true rfl, Nat.le_of_ble_eq_true rfl⟩) ⟨fun a U g mk q => by obtain ⟨q0, q1, qP, qK, qD, qZ⟩ := q; exact ⟨q0, q1, qP, va_K.moved (u := U) (U := U.calling g mk a) (Vm.Alike.refl U.vm) qK, qD, qZ.call⟩, va_recv hKc hPc (ci := 12) (q0 := 0) rfl rfl, fun U hU hW => ⟨rfl, by rw [hU], by rw [hU]; exact hPc, va_K.moved hW.alike hKc, hDc.weaken (fun _ _ _ _ => trivial), by rw [hU]; exact hZc.warm hW⟩⟩ rfl rfl hl.1 rfl (lv_room (Nat.le_of_ble_eq_true rfl)) dX10_digest_23 ⟨Nat.le_of_ble_eq_true rfl, Nat.le_of_ble_eq_true rfl⟩) hS (fun q _ h => hFc q h) hFc (fun r_20 u t H1 locs ht hvm hw hB hz1 hk1 hS => ?_)
  obtain ⟨hP1, hK1, hD1⟩ := hB
  rw [ht] at hP1
  have hK1 := va_K.moved hvm.symm hK1
  obtain ⟨hP, hD⟩ := va_join (wr := []) (w1 := [(m0, .inr (12, [.int 0, .ref l1, .ref l2, .int 0, .int 0, .int 0, .long 51685551870397])), (l1, .inr (1, [.int 0, .ref a0, .int 0])), (l2, .inr (1, [.int 0, .ref a0, .int 0]))]) hP hD [2, 0, 1] [] rfl rfl (by decide) (by decide) hk1 hFc hP1 hD1
  have hK := (hK.sub (tys' := []) [] rfl).app hK1
  generalize H1 = H at hP hS ⊢
  have hP : va_P (dC, dI) vwCl [(m0, .inr (12, [.int 0, .ref l1, .ref l2, .int 0, .int 0, .int 0, .long 51685551870397])), (l1, .inr (1, [.int 0, .ref a0, .int 0])), (l2, .inr (1, [.int 0, .ref a0, .int 0]))] H := hP
  have hD : va_D A [(m0, .inr (12, [.int 0, .ref l1, .ref l2, .int 0, .int 0, .int 0, .long 51685551870397])), (l1, .inr (1, [.int 0, .ref a0, .int 0])), (l2, .inr (1, [.int 0, .ref a0, .int 0]))] := hD
  have hK : va_K (dC, dI) vwCl [] s := hK
  refine W.widen (k := 21) (n := 140) (Nat.le_of_ble_eq_true rfl) (Nat.le_of_ble_eq_true rfl) ?_
  obtain rfl : r_20 = 0 := hw
  have hPc := hP.sub (ws' := [(m0, .inr (12, [.int 0, .ref l1, .ref l2, .int 0, .int 0, .int 0, .long 51685551870397]))]) [0] rfl
  have hDc := hD.sub (ws' := [(m0, .inr (12, [.int 0, .ref l1, .ref l2, .int 0, .int 0, .int 0, .long 51685551870397]))]) [0] (by decide) rfl
  have hKc := hK.sub (tys' := []) [] rfl
  have hFc := va_free (wc := [(m0, .inr (12, [.int 0, .ref l1, .ref l2, .int 0, .int 0, .int 0, .long 51685551870397]))]) hD hS hA [0] rfl
  have hZc := ((hZ.kept hS.2.1).narrow hFc)
  refine va_callv (va_runV (As := [.int 0]) (rest := []) ⟨hx, hb, hml, hown, hts⟩ (c_X10_add l hnt dC dI a0 m0 l1 l2 0 51685551870397 1602252107982307 H.size (by decide +kernel)) (cwV 1 hts (goodIn_of _ (by decide +kernel)) rfl rfl rfl (by decide +kernel) ⟨Nat.le_of_ble_eq_true rfl, Nat.le_of_ble_eq_true rfl⟩) ⟨fun a U g mk q => by obtain ⟨q0, q1, qP, qK, qD, qZ⟩ := q; exact ⟨q0, q1, qP, va_K.moved (u := U) (U := U.calling g mk a) (Vm.Alike.refl U.vm) qK, qD, qZ.call⟩, va_recv hKc hPc (ci := 12) (q0 := 0) rfl rfl, fun U hU hW => ⟨rfl, by rw [hU], by rw [hU]; exact hPc, va_K.moved hW.alike hKc, hDc.weaken (fun _ _ _ _ => trivial), by rw [hU]; exact hZc.warm hW⟩⟩ rfl rfl hl.1 rfl (lv_room (Nat.le_of_ble_eq_true rfl)) dX10_digest_26 ⟨Nat.le_of_ble_eq_true rfl, Nat.le_of_ble_eq_true rfl⟩) hS (fun q _ h => hFc q h) hFc (fun u t H1 locs ht hvm hw hB hz1 hk1 hS => ?_)
  obtain ⟨hP1, hK1, hD1⟩ := hB
  rw [ht] at hP1
  have hK1 := va_K.moved hvm.symm hK1
  obtain ⟨hP, hD⟩ := va_join (wr := [(l1, .inr (1, [.int 0, .ref a0, .int 0])), (l2, .inr (1, [.int 0, .ref a0, .int 0]))]) (w1 := [(m0, .inr (12, [.int 0, .ref l1, .ref l2, .int 0, .int 0, .int 0, .long 1602252107982307]))]) hP hD [0] [1, 2] rfl rfl (by decide) (by decide) hk1 hFc hP1 hD1
  have hK := (hK.sub (tys' := []) [] rfl).app hK1
  generalize H1 = H at hP hS ⊢
  have hP : va_P (dC, dI) vwCl [(l1, .inr (1, [.int 0, .ref a0, .int 0])), (l2, .inr (1, [.int 0, .ref a0, .int 0])), (m0, .inr (12, [.int 0, .ref l1, .ref l2, .int 0, .int 0, .int 0, .long 1602252107982307]))] H := hP
  have hD : va_D A [(l1, .inr (1, [.int 0, .ref a0, .int 0])), (l2, .inr (1, [.int 0, .ref a0, .int 0])), (m0, .inr (12, [.int 0, .ref l1, .ref l2, .int 0, .int 0, .int 0, .long 1602252107982307]))] := hD
  have hK : va_K (dC, dI) vwCl [] s := hK
  refine W.widen (k := 21) (n := 140) (Nat.le_of_ble_eq_true rfl) (Nat.le_of_ble_eq_true rfl) ?_
  refine lv_iinc (v := 7) (lv' := [(1, .int 7), (0, .ref m0)]) hx hb dX10_digest_29 hl (k := 0) rfl (by decide) (by decide) rfl (fun ls hl => ?_)
  refine lv_goto (tgt := 14) hx hb dX10_digest_32 (by decide) ?_
  refine lv_iload_n hx hb dX10_digest_14 rfl (lv_at hl 0 rfl) ?_
  refine lv_bipush (v := 11) hx hb dX10_digest_15 (by decide) ?_
  refine lv_icmp_ge (tgt := 35) hx hb dX10_digest_17 (by decide) (fun c_22 => ?_) (fun c_22 => ?_)
  · (first | exact absurd c_22 (by decide) | exact absurd (by decide) c_22)
  refine lv_aload_n hx hb dX10_digest_20 rfl (lv_at hl 1 rfl) ?_
  refine lv_aload_n hx hb dX10_digest_21 rfl (lv_at hl 1 rfl) ?_
  refine lv_iload_n hx hb dX10_digest_22 rfl (lv_at hl 0 rfl) ?_
  have hPc := hP.sub (ws' := [(m0, .inr (12, [.int 0, .ref l1, .ref l2, .int 0, .int 0, .int 0, .long 1602252107982307])), (l1, .inr (1, [.int 0, .ref a0, .int 0])), (l2, .inr (1, [.int 0, .ref a0, .int 0]))]) [2, 0, 1] rfl
  have hDc := hD.sub (ws' := [(m0, .inr (12, [.int 0, .ref l1, .ref l2, .int 0, .int 0, .int 0, .long 1602252107982307])), (l1, .inr (1, [.int 0, .ref a0, .int 0])), (l2, .inr (1, [.int 0, .ref a0, .int 0]))]) [2, 0, 1] (by decide) rfl
  have hKc := hK.sub (tys' := []) [] rfl
  have hFc := va_free (wc := [(m0, .inr (12, [.int 0, .ref l1, .ref l2, .int 0, .int 0, .int 0, .long 1602252107982307])), (l1, .inr (1, [.int 0, .ref a0, .int 0])), (l2, .inr (1, [.int 0, .ref a0, .int 0]))]) hD hS hA [2, 0, 1] rfl
  have hZc := ((hZ.kept hS.2.1).narrow hFc)
  refine va_calli (va_runV (As := [.int 7]) (rest := [.ref m0]) ⟨hx, hb, hml, hown, hts⟩ (c_X10_manyNow_7 l hnt dC dI a0 m0 l1 l2 1602252107982307 H.size ) (cwV 1 hts (goodIn_of _ (by decide +kernel)) rfl rfl rfl (by decide +kernel) ⟨Nat.le_of_ble_eq_true rfl, Nat.le_of_ble_eq_true rfl⟩) ⟨fun a U g mk q => by obtain ⟨q0, q1, qP, qK, qD, qZ⟩ := q; exact ⟨q0, q1, qP, va_K.moved (u := U) (U := U.calling g mk a) (Vm.Alike.refl U.vm) qK, qD, qZ.call⟩, va_recv hKc hPc (ci := 12) (q0 := 0) rfl rfl, fun U hU hW => ⟨rfl, by rw [hU], by rw [hU]; exact hPc, va_K.moved hW.alike hKc, hDc.weaken (fun _ _ _ _ => trivial), by rw [hU]; exact hZc.warm hW⟩⟩ rfl rfl hl.1 rfl (lv_room (Nat.le_of_ble_eq_true rfl)) dX10_digest_23 ⟨Nat.le_of_ble_eq_true rfl, Nat.le_of_ble_eq_true rfl⟩) hS (fun q _ h => hFc q h) hFc (fun r_23 u t H1 locs ht hvm hw hB hz1 hk1 hS => ?_)
  obtain ⟨hP1, hK1, hD1⟩ := hB
  rw [ht] at hP1
  have hK1 := va_K.moved hvm.symm hK1
  obtain ⟨hP, hD⟩ := va_join (wr := []) (w1 := [(m0, .inr (12, [.int 0, .ref l1, .ref l2, .int 0, .int 0, .int 0, .long 1602252107982307])), (l1, .inr (1, [.int 0, .ref a0, .int 0])), (l2, .inr (1, [.int 0, .ref a0, .int 0]))]) hP hD [2, 0, 1] [] rfl rfl (by decide) (by decide) hk1 hFc hP1 hD1
  have hK := (hK.sub (tys' := []) [] rfl).app hK1
  generalize H1 = H at hP hS ⊢
  have hP : va_P (dC, dI) vwCl [(m0, .inr (12, [.int 0, .ref l1, .ref l2, .int 0, .int 0, .int 0, .long 1602252107982307])), (l1, .inr (1, [.int 0, .ref a0, .int 0])), (l2, .inr (1, [.int 0, .ref a0, .int 0]))] H := hP
  have hD : va_D A [(m0, .inr (12, [.int 0, .ref l1, .ref l2, .int 0, .int 0, .int 0, .long 1602252107982307])), (l1, .inr (1, [.int 0, .ref a0, .int 0])), (l2, .inr (1, [.int 0, .ref a0, .int 0]))] := hD
  have hK : va_K (dC, dI) vwCl [] s := hK
  refine W.widen (k := 24) (n := 160) (Nat.le_of_ble_eq_true rfl) (Nat.le_of_ble_eq_true rfl) ?_
  obtain rfl : r_23 = 0 := hw
  have hPc := hP.sub (ws' := [(m0, .inr (12, [.int 0, .ref l1, .ref l2, .int 0, .int 0, .int 0, .long 1602252107982307]))]) [0] rfl
  have hDc := hD.sub (ws' := [(m0, .inr (12, [.int 0, .ref l1, .ref l2, .int 0, .int 0, .int 0, .long 1602252107982307]))]) [0] (by decide) rfl
  have hKc := hK.sub (tys' := []) [] rfl
  have hFc := va_free (wc := [(m0, .inr (12, [.int 0, .ref l1, .ref l2, .int 0, .int 0, .int 0, .long 1602252107982307]))]) hD hS hA [0] rfl
  have hZc := ((hZ.kept hS.2.1).narrow hFc)
  refine va_callv (va_runV (As := [.int 0]) (rest := []) ⟨hx, hb, hml, hown, hts⟩ (c_X10_add l hnt dC dI a0 m0 l1 l2 0 1602252107982307 49669815347451517 H.size (by decide +kernel)) (cwV 1 hts (goodIn_of _ (by decide +kernel)) rfl rfl rfl (by decide +kernel) ⟨Nat.le_of_ble_eq_true rfl, Nat.le_of_ble_eq_true rfl⟩) ⟨fun a U g mk q => by obtain ⟨q0, q1, qP, qK, qD, qZ⟩ := q; exact ⟨q0, q1, qP, va_K.moved (u := U) (U := U.calling g mk a) (Vm.Alike.refl U.vm) qK, qD, qZ.call⟩, va_recv hKc hPc (ci := 12) (q0 := 0) rfl rfl, fun U hU hW => ⟨rfl, by rw [hU], by rw [hU]; exact hPc, va_K.moved hW.alike hKc, hDc.weaken (fun _ _ _ _ => trivial), by rw [hU]; exact hZc.warm hW⟩⟩ rfl rfl hl.1 rfl (lv_room (Nat.le_of_ble_eq_true rfl)) dX10_digest_26 ⟨Nat.le_of_ble_eq_true rfl, Nat.le_of_ble_eq_true rfl⟩) hS (fun q _ h => hFc q h) hFc (fun u t H1 locs ht hvm hw hB hz1 hk1 hS => ?_)
  obtain ⟨hP1, hK1, hD1⟩ := hB
  rw [ht] at hP1
  have hK1 := va_K.moved hvm.symm hK1
  obtain ⟨hP, hD⟩ := va_join (wr := [(l1, .inr (1, [.int 0, .ref a0, .int 0])), (l2, .inr (1, [.int 0, .ref a0, .int 0]))]) (w1 := [(m0, .inr (12, [.int 0, .ref l1, .ref l2, .int 0, .int 0, .int 0, .long 49669815347451517]))]) hP hD [0] [1, 2] rfl rfl (by decide) (by decide) hk1 hFc hP1 hD1
  have hK := (hK.sub (tys' := []) [] rfl).app hK1
  generalize H1 = H at hP hS ⊢
  have hP : va_P (dC, dI) vwCl [(l1, .inr (1, [.int 0, .ref a0, .int 0])), (l2, .inr (1, [.int 0, .ref a0, .int 0])), (m0, .inr (12, [.int 0, .ref l1, .ref l2, .int 0, .int 0, .int 0, .long 49669815347451517]))] H := hP
  have hD : va_D A [(l1, .inr (1, [.int 0, .ref a0, .int 0])), (l2, .inr (1, [.int 0, .ref a0, .int 0])), (m0, .inr (12, [.int 0, .ref l1, .ref l2, .int 0, .int 0, .int 0, .long 49669815347451517]))] := hD
  have hK : va_K (dC, dI) vwCl [] s := hK
  refine W.widen (k := 24) (n := 160) (Nat.le_of_ble_eq_true rfl) (Nat.le_of_ble_eq_true rfl) ?_
  refine lv_iinc (v := 8) (lv' := [(1, .int 8), (0, .ref m0)]) hx hb dX10_digest_29 hl (k := 0) rfl (by decide) (by decide) rfl (fun ls hl => ?_)
  refine lv_goto (tgt := 14) hx hb dX10_digest_32 (by decide) ?_
  refine lv_iload_n hx hb dX10_digest_14 rfl (lv_at hl 0 rfl) ?_
  refine lv_bipush (v := 11) hx hb dX10_digest_15 (by decide) ?_
  refine lv_icmp_ge (tgt := 35) hx hb dX10_digest_17 (by decide) (fun c_25 => ?_) (fun c_25 => ?_)
  · (first | exact absurd c_25 (by decide) | exact absurd (by decide) c_25)
  refine lv_aload_n hx hb dX10_digest_20 rfl (lv_at hl 1 rfl) ?_
  refine lv_aload_n hx hb dX10_digest_21 rfl (lv_at hl 1 rfl) ?_
  refine lv_iload_n hx hb dX10_digest_22 rfl (lv_at hl 0 rfl) ?_
  have hPc := hP.sub (ws' := [(m0, .inr (12, [.int 0, .ref l1, .ref l2, .int 0, .int 0, .int 0, .long 49669815347451517])), (l1, .inr (1, [.int 0, .ref a0, .int 0])), (l2, .inr (1, [.int 0, .ref a0, .int 0]))]) [2, 0, 1] rfl
  have hDc := hD.sub (ws' := [(m0, .inr (12, [.int 0, .ref l1, .ref l2, .int 0, .int 0, .int 0, .long 49669815347451517])), (l1, .inr (1, [.int 0, .ref a0, .int 0])), (l2, .inr (1, [.int 0, .ref a0, .int 0]))]) [2, 0, 1] (by decide) rfl
  have hKc := hK.sub (tys' := []) [] rfl
  have hFc := va_free (wc := [(m0, .inr (12, [.int 0, .ref l1, .ref l2, .int 0, .int 0, .int 0, .long 49669815347451517])), (l1, .inr (1, [.int 0, .ref a0, .int 0])), (l2, .inr (1, [.int 0, .ref a0, .int 0]))]) hD hS hA [2, 0, 1] rfl
  have hZc := ((hZ.kept hS.2.1).narrow hFc)
  refine va_calli (va_runV (As := [.int 8]) (rest := [.ref m0]) ⟨hx, hb, hml, hown, hts⟩ (c_X10_manyNow_8 l hnt dC dI a0 m0 l1 l2 49669815347451517 H.size ) (cwV 1 hts (goodIn_of _ (by decide +kernel)) rfl rfl rfl (by decide +kernel) ⟨Nat.le_of_ble_eq_true rfl, Nat.le_of_ble_eq_true rfl⟩) ⟨fun a U g mk q => by obtain ⟨q0, q1, qP, qK, qD, qZ⟩ := q; exact ⟨q0, q1, qP, va_K.moved (u := U) (U := U.calling g mk a) (Vm.Alike.refl U.vm) qK, qD, qZ.call⟩, va_recv hKc hPc (ci := 12) (q0 := 0) rfl rfl, fun U hU hW => ⟨rfl, by rw [hU], by rw [hU]; exact hPc, va_K.moved hW.alike hKc, hDc.weaken (fun _ _ _ _ => trivial), by rw [hU]; exact hZc.warm hW⟩⟩ rfl rfl hl.1 rfl (lv_room (Nat.le_of_ble_eq_true rfl)) dX10_digest_23 ⟨Nat.le_of_ble_eq_true rfl, Nat.le_of_ble_eq_true rfl⟩) hS (fun q _ h => hFc q h) hFc (fun r_26 u t H1 locs ht hvm hw hB hz1 hk1 hS => ?_)
  obtain ⟨hP1, hK1, hD1⟩ := hB
  rw [ht] at hP1
  have hK1 := va_K.moved hvm.symm hK1
  obtain ⟨hP, hD⟩ := va_join (wr := []) (w1 := [(m0, .inr (12, [.int 0, .ref l1, .ref l2, .int 0, .int 0, .int 0, .long 49669815347451517])), (l1, .inr (1, [.int 0, .ref a0, .int 0])), (l2, .inr (1, [.int 0, .ref a0, .int 0]))]) hP hD [2, 0, 1] [] rfl rfl (by decide) (by decide) hk1 hFc hP1 hD1
  have hK := (hK.sub (tys' := []) [] rfl).app hK1
  generalize H1 = H at hP hS ⊢
  have hP : va_P (dC, dI) vwCl [(m0, .inr (12, [.int 0, .ref l1, .ref l2, .int 0, .int 0, .int 0, .long 49669815347451517])), (l1, .inr (1, [.int 0, .ref a0, .int 0])), (l2, .inr (1, [.int 0, .ref a0, .int 0]))] H := hP
  have hD : va_D A [(m0, .inr (12, [.int 0, .ref l1, .ref l2, .int 0, .int 0, .int 0, .long 49669815347451517])), (l1, .inr (1, [.int 0, .ref a0, .int 0])), (l2, .inr (1, [.int 0, .ref a0, .int 0]))] := hD
  have hK : va_K (dC, dI) vwCl [] s := hK
  refine W.widen (k := 27) (n := 180) (Nat.le_of_ble_eq_true rfl) (Nat.le_of_ble_eq_true rfl) ?_
  obtain rfl : r_26 = 0 := hw
  have hPc := hP.sub (ws' := [(m0, .inr (12, [.int 0, .ref l1, .ref l2, .int 0, .int 0, .int 0, .long 49669815347451517]))]) [0] rfl
  have hDc := hD.sub (ws' := [(m0, .inr (12, [.int 0, .ref l1, .ref l2, .int 0, .int 0, .int 0, .long 49669815347451517]))]) [0] (by decide) rfl
  have hKc := hK.sub (tys' := []) [] rfl
  have hFc := va_free (wc := [(m0, .inr (12, [.int 0, .ref l1, .ref l2, .int 0, .int 0, .int 0, .long 49669815347451517]))]) hD hS hA [0] rfl
  have hZc := ((hZ.kept hS.2.1).narrow hFc)
  refine va_callv (va_runV (As := [.int 0]) (rest := []) ⟨hx, hb, hml, hown, hts⟩ (c_X10_add l hnt dC dI a0 m0 l1 l2 0 49669815347451517 1539764275770997027 H.size (by decide +kernel)) (cwV 1 hts (goodIn_of _ (by decide +kernel)) rfl rfl rfl (by decide +kernel) ⟨Nat.le_of_ble_eq_true rfl, Nat.le_of_ble_eq_true rfl⟩) ⟨fun a U g mk q => by obtain ⟨q0, q1, qP, qK, qD, qZ⟩ := q; exact ⟨q0, q1, qP, va_K.moved (u := U) (U := U.calling g mk a) (Vm.Alike.refl U.vm) qK, qD, qZ.call⟩, va_recv hKc hPc (ci := 12) (q0 := 0) rfl rfl, fun U hU hW => ⟨rfl, by rw [hU], by rw [hU]; exact hPc, va_K.moved hW.alike hKc, hDc.weaken (fun _ _ _ _ => trivial), by rw [hU]; exact hZc.warm hW⟩⟩ rfl rfl hl.1 rfl (lv_room (Nat.le_of_ble_eq_true rfl)) dX10_digest_26 ⟨Nat.le_of_ble_eq_true rfl, Nat.le_of_ble_eq_true rfl⟩) hS (fun q _ h => hFc q h) hFc (fun u t H1 locs ht hvm hw hB hz1 hk1 hS => ?_)
  obtain ⟨hP1, hK1, hD1⟩ := hB
  rw [ht] at hP1
  have hK1 := va_K.moved hvm.symm hK1
  obtain ⟨hP, hD⟩ := va_join (wr := [(l1, .inr (1, [.int 0, .ref a0, .int 0])), (l2, .inr (1, [.int 0, .ref a0, .int 0]))]) (w1 := [(m0, .inr (12, [.int 0, .ref l1, .ref l2, .int 0, .int 0, .int 0, .long 1539764275770997027]))]) hP hD [0] [1, 2] rfl rfl (by decide) (by decide) hk1 hFc hP1 hD1
  have hK := (hK.sub (tys' := []) [] rfl).app hK1
  generalize H1 = H at hP hS ⊢
  have hP : va_P (dC, dI) vwCl [(l1, .inr (1, [.int 0, .ref a0, .int 0])), (l2, .inr (1, [.int 0, .ref a0, .int 0])), (m0, .inr (12, [.int 0, .ref l1, .ref l2, .int 0, .int 0, .int 0, .long 1539764275770997027]))] H := hP
  have hD : va_D A [(l1, .inr (1, [.int 0, .ref a0, .int 0])), (l2, .inr (1, [.int 0, .ref a0, .int 0])), (m0, .inr (12, [.int 0, .ref l1, .ref l2, .int 0, .int 0, .int 0, .long 1539764275770997027]))] := hD
  have hK : va_K (dC, dI) vwCl [] s := hK
  refine W.widen (k := 27) (n := 180) (Nat.le_of_ble_eq_true rfl) (Nat.le_of_ble_eq_true rfl) ?_
  refine lv_iinc (v := 9) (lv' := [(1, .int 9), (0, .ref m0)]) hx hb dX10_digest_29 hl (k := 0) rfl (by decide) (by decide) rfl (fun ls hl => ?_)
  refine lv_goto (tgt := 14) hx hb dX10_digest_32 (by decide) ?_
  refine lv_iload_n hx hb dX10_digest_14 rfl (lv_at hl 0 rfl) ?_
  refine lv_bipush (v := 11) hx hb dX10_digest_15 (by decide) ?_
  refine lv_icmp_ge (tgt := 35) hx hb dX10_digest_17 (by decide) (fun c_28 => ?_) (fun c_28 => ?_)
  · (first | exact absurd c_28 (by decide) | exact absurd (by decide) c_28)
  refine lv_aload_n hx hb dX10_digest_20 rfl (lv_at hl 1 rfl) ?_
  refine lv_aload_n hx hb dX10_digest_21 rfl (lv_at hl 1 rfl) ?_
  refine lv_iload_n hx hb dX10_digest_22 rfl (lv_at hl 0 rfl) ?_
  have hPc := hP.sub (ws' := [(m0, .inr (12, [.int 0, .ref l1, .ref l2, .int 0, .int 0, .int 0, .long 1539764275770997027])), (l1, .inr (1, [.int 0, .ref a0, .int 0])), (l2, .inr (1, [.int 0, .ref a0, .int 0]))]) [2, 0, 1] rfl
  have hDc := hD.sub (ws' := [(m0, .inr (12, [.int 0, .ref l1, .ref l2, .int 0, .int 0, .int 0, .long 1539764275770997027])), (l1, .inr (1, [.int 0, .ref a0, .int 0])), (l2, .inr (1, [.int 0, .ref a0, .int 0]))]) [2, 0, 1] (by decide) rfl
  have hKc := hK.sub (tys' := []) [] rfl
  have hFc := va_free (wc := [(m0, .inr (12, [.int 0, .ref l1, .ref l2, .int 0, .int 0, .int 0, .long 1539764275770997027])), (l1, .inr (1, [.int 0, .ref a0, .int 0])), (l2, .inr (1, [.int 0, .ref a0, .int 0]))]) hD hS hA [2, 0, 1] rfl
  have hZc := ((hZ.kept hS.2.1).narrow hFc)
  refine va_calli (va_runV (As := [.int 9]) (rest := [.ref m0]) ⟨hx, hb, hml, hown, hts⟩ (c_X10_manyNow_9 l hnt dC dI a0 m0 l1 l2 1539764275770997027 H.size ) (cwV 1 hts (goodIn_of _ (by decide +kernel)) rfl rfl rfl (by decide +kernel) ⟨Nat.le_of_ble_eq_true rfl, Nat.le_of_ble_eq_true rfl⟩) ⟨fun a U g mk q => by obtain ⟨q0, q1, qP, qK, qD, qZ⟩ := q; exact ⟨q0, q1, qP, va_K.moved (u := U) (U := U.calling g mk a) (Vm.Alike.refl U.vm) qK, qD, qZ.call⟩, va_recv hKc hPc (ci := 12) (q0 := 0) rfl rfl, fun U hU hW => ⟨rfl, by rw [hU], by rw [hU]; exact hPc, va_K.moved hW.alike hKc, hDc.weaken (fun _ _ _ _ => trivial), by rw [hU]; exact hZc.warm hW⟩⟩ rfl rfl hl.1 rfl (lv_room (Nat.le_of_ble_eq_true rfl)) dX10_digest_23 ⟨Nat.le_of_ble_eq_true rfl, Nat.le_of_ble_eq_true rfl⟩) hS (fun q _ h => hFc q h) hFc (fun r_29 u t H1 locs ht hvm hw hB hz1 hk1 hS => ?_)
  obtain ⟨hP1, hK1, hD1⟩ := hB
  rw [ht] at hP1
  have hK1 := va_K.moved hvm.symm hK1
  obtain ⟨hP, hD⟩ := va_join (wr := []) (w1 := [(m0, .inr (12, [.int 0, .ref l1, .ref l2, .int 0, .int 0, .int 0, .long 1539764275770997027])), (l1, .inr (1, [.int 0, .ref a0, .int 0])), (l2, .inr (1, [.int 0, .ref a0, .int 0]))]) hP hD [2, 0, 1] [] rfl rfl (by decide) (by decide) hk1 hFc hP1 hD1
  have hK := (hK.sub (tys' := []) [] rfl).app hK1
  generalize H1 = H at hP hS ⊢
  have hP : va_P (dC, dI) vwCl [(m0, .inr (12, [.int 0, .ref l1, .ref l2, .int 0, .int 0, .int 0, .long 1539764275770997027])), (l1, .inr (1, [.int 0, .ref a0, .int 0])), (l2, .inr (1, [.int 0, .ref a0, .int 0]))] H := hP
  have hD : va_D A [(m0, .inr (12, [.int 0, .ref l1, .ref l2, .int 0, .int 0, .int 0, .long 1539764275770997027])), (l1, .inr (1, [.int 0, .ref a0, .int 0])), (l2, .inr (1, [.int 0, .ref a0, .int 0]))] := hD
  have hK : va_K (dC, dI) vwCl [] s := hK
  refine W.widen (k := 30) (n := 200) (Nat.le_of_ble_eq_true rfl) (Nat.le_of_ble_eq_true rfl) ?_
  obtain rfl : r_29 = 0 := hw
  have hPc := hP.sub (ws' := [(m0, .inr (12, [.int 0, .ref l1, .ref l2, .int 0, .int 0, .int 0, .long 1539764275770997027]))]) [0] rfl
  have hDc := hD.sub (ws' := [(m0, .inr (12, [.int 0, .ref l1, .ref l2, .int 0, .int 0, .int 0, .long 1539764275770997027]))]) [0] (by decide) rfl
  have hKc := hK.sub (tys' := []) [] rfl
  have hFc := va_free (wc := [(m0, .inr (12, [.int 0, .ref l1, .ref l2, .int 0, .int 0, .int 0, .long 1539764275770997027]))]) hD hS hA [0] rfl
  have hZc := ((hZ.kept hS.2.1).narrow hFc)
  refine va_callv (va_runV (As := [.int 0]) (rest := []) ⟨hx, hb, hml, hown, hts⟩ (c_X10_add l hnt dC dI a0 m0 l1 l2 0 1539764275770997027 ((-7607539672227747011)) H.size (by decide +kernel)) (cwV 1 hts (goodIn_of _ (by decide +kernel)) rfl rfl rfl (by decide +kernel) ⟨Nat.le_of_ble_eq_true rfl, Nat.le_of_ble_eq_true rfl⟩) ⟨fun a U g mk q => by obtain ⟨q0, q1, qP, qK, qD, qZ⟩ := q; exact ⟨q0, q1, qP, va_K.moved (u := U) (U := U.calling g mk a) (Vm.Alike.refl U.vm) qK, qD, qZ.call⟩, va_recv hKc hPc (ci := 12) (q0 := 0) rfl rfl, fun U hU hW => ⟨rfl, by rw [hU], by rw [hU]; exact hPc, va_K.moved hW.alike hKc, hDc.weaken (fun _ _ _ _ => trivial), by rw [hU]; exact hZc.warm hW⟩⟩ rfl rfl hl.1 rfl (lv_room (Nat.le_of_ble_eq_true rfl)) dX10_digest_26 ⟨Nat.le_of_ble_eq_true rfl, Nat.le_of_ble_eq_true rfl⟩) hS (fun q _ h => hFc q h) hFc (fun u t H1 locs ht hvm hw hB hz1 hk1 hS => ?_)
  obtain ⟨hP1, hK1, hD1⟩ := hB
  rw [ht] at hP1
  have hK1 := va_K.moved hvm.symm hK1
  obtain ⟨hP, hD⟩ := va_join (wr := [(l1, .inr (1, [.int 0, .ref a0, .int 0])), (l2, .inr (1, [.int 0, .ref a0, .int 0]))]) (w1 := [(m0, .inr (12, [.int 0, .ref l1, .ref l2, .int 0, .int 0, .int 0, .long (-7607539672227747011)]))]) hP hD [0] [1, 2] rfl rfl (by decide) (by decide) hk1 hFc hP1 hD1
  have hK := (hK.sub (tys' := []) [] rfl).app hK1
  generalize H1 = H at hP hS ⊢
  have hP : va_P (dC, dI) vwCl [(l1, .inr (1, [.int 0, .ref a0, .int 0])), (l2, .inr (1, [.int 0, .ref a0, .int 0])), (m0, .inr (12, [.int 0, .ref l1, .ref l2, .int 0, .int 0, .int 0, .long (-7607539672227747011)]))] H := hP
  have hD : va_D A [(l1, .inr (1, [.int 0, .ref a0, .int 0])), (l2, .inr (1, [.int 0, .ref a0, .int 0])), (m0, .inr (12, [.int 0, .ref l1, .ref l2, .int 0, .int 0, .int 0, .long (-7607539672227747011)]))] := hD
  have hK : va_K (dC, dI) vwCl [] s := hK
  refine W.widen (k := 30) (n := 200) (Nat.le_of_ble_eq_true rfl) (Nat.le_of_ble_eq_true rfl) ?_
  refine lv_iinc (v := 10) (lv' := [(1, .int 10), (0, .ref m0)]) hx hb dX10_digest_29 hl (k := 0) rfl (by decide) (by decide) rfl (fun ls hl => ?_)
  refine lv_goto (tgt := 14) hx hb dX10_digest_32 (by decide) ?_
  refine lv_iload_n hx hb dX10_digest_14 rfl (lv_at hl 0 rfl) ?_
  refine lv_bipush (v := 11) hx hb dX10_digest_15 (by decide) ?_
  refine lv_icmp_ge (tgt := 35) hx hb dX10_digest_17 (by decide) (fun c_31 => ?_) (fun c_31 => ?_)
  · (first | exact absurd c_31 (by decide) | exact absurd (by decide) c_31)
  refine lv_aload_n hx hb dX10_digest_20 rfl (lv_at hl 1 rfl) ?_
  refine lv_aload_n hx hb dX10_digest_21 rfl (lv_at hl 1 rfl) ?_
  refine lv_iload_n hx hb dX10_digest_22 rfl (lv_at hl 0 rfl) ?_
  have hPc := hP.sub (ws' := [(m0, .inr (12, [.int 0, .ref l1, .ref l2, .int 0, .int 0, .int 0, .long (-7607539672227747011)])), (l1, .inr (1, [.int 0, .ref a0, .int 0])), (l2, .inr (1, [.int 0, .ref a0, .int 0]))]) [2, 0, 1] rfl
  have hDc := hD.sub (ws' := [(m0, .inr (12, [.int 0, .ref l1, .ref l2, .int 0, .int 0, .int 0, .long (-7607539672227747011)])), (l1, .inr (1, [.int 0, .ref a0, .int 0])), (l2, .inr (1, [.int 0, .ref a0, .int 0]))]) [2, 0, 1] (by decide) rfl
  have hKc := hK.sub (tys' := []) [] rfl
  have hFc := va_free (wc := [(m0, .inr (12, [.int 0, .ref l1, .ref l2, .int 0, .int 0, .int 0, .long (-7607539672227747011)])), (l1, .inr (1, [.int 0, .ref a0, .int 0])), (l2, .inr (1, [.int 0, .ref a0, .int 0]))]) hD hS hA [2, 0, 1] rfl
  have hZc := ((hZ.kept hS.2.1).narrow hFc)
  refine va_calli (va_runV (As := [.int 10]) (rest := [.ref m0]) ⟨hx, hb, hml, hown, hts⟩ (c_X10_manyNow_10 l hnt dC dI a0 m0 l1 l2 ((-7607539672227747011)) H.size ) (cwV 1 hts (goodIn_of _ (by decide +kernel)) rfl rfl rfl (by decide +kernel) ⟨Nat.le_of_ble_eq_true rfl, Nat.le_of_ble_eq_true rfl⟩) ⟨fun a U g mk q => by obtain ⟨q0, q1, qP, qK, qD, qZ⟩ := q; exact ⟨q0, q1, qP, va_K.moved (u := U) (U := U.calling g mk a) (Vm.Alike.refl U.vm) qK, qD, qZ.call⟩, va_recv hKc hPc (ci := 12) (q0 := 0) rfl rfl, fun U hU hW => ⟨rfl, by rw [hU], by rw [hU]; exact hPc, va_K.moved hW.alike hKc, hDc.weaken (fun _ _ _ _ => trivial), by rw [hU]; exact hZc.warm hW⟩⟩ rfl rfl hl.1 rfl (lv_room (Nat.le_of_ble_eq_true rfl)) dX10_digest_23 ⟨Nat.le_of_ble_eq_true rfl, Nat.le_of_ble_eq_true rfl⟩) hS (fun q _ h => hFc q h) hFc (fun r_32 u t H1 locs ht hvm hw hB hz1 hk1 hS => ?_)
  obtain ⟨hP1, hK1, hD1⟩ := hB
  rw [ht] at hP1
  have hK1 := va_K.moved hvm.symm hK1
  obtain ⟨hP, hD⟩ := va_join (wr := []) (w1 := [(m0, .inr (12, [.int 0, .ref l1, .ref l2, .int 0, .int 0, .int 0, .long (-7607539672227747011)])), (l1, .inr (1, [.int 0, .ref a0, .int 0])), (l2, .inr (1, [.int 0, .ref a0, .int 0]))]) hP hD [2, 0, 1] [] rfl rfl (by decide) (by decide) hk1 hFc hP1 hD1
  have hK := (hK.sub (tys' := []) [] rfl).app hK1
  generalize H1 = H at hP hS ⊢
  have hP : va_P (dC, dI) vwCl [(m0, .inr (12, [.int 0, .ref l1, .ref l2, .int 0, .int 0, .int 0, .long (-7607539672227747011)])), (l1, .inr (1, [.int 0, .ref a0, .int 0])), (l2, .inr (1, [.int 0, .ref a0, .int 0]))] H := hP
  have hD : va_D A [(m0, .inr (12, [.int 0, .ref l1, .ref l2, .int 0, .int 0, .int 0, .long (-7607539672227747011)])), (l1, .inr (1, [.int 0, .ref a0, .int 0])), (l2, .inr (1, [.int 0, .ref a0, .int 0]))] := hD
  have hK : va_K (dC, dI) vwCl [] s := hK
  refine W.widen (k := 33) (n := 220) (Nat.le_of_ble_eq_true rfl) (Nat.le_of_ble_eq_true rfl) ?_
  obtain rfl : r_32 = 0 := hw
  have hPc := hP.sub (ws' := [(m0, .inr (12, [.int 0, .ref l1, .ref l2, .int 0, .int 0, .int 0, .long (-7607539672227747011)]))]) [0] rfl
  have hDc := hD.sub (ws' := [(m0, .inr (12, [.int 0, .ref l1, .ref l2, .int 0, .int 0, .int 0, .long (-7607539672227747011)]))]) [0] (by decide) rfl
  have hKc := hK.sub (tys' := []) [] rfl
  have hFc := va_free (wc := [(m0, .inr (12, [.int 0, .ref l1, .ref l2, .int 0, .int 0, .int 0, .long (-7607539672227747011)]))]) hD hS hA [0] rfl
  have hZc := ((hZ.kept hS.2.1).narrow hFc)
  refine va_callv (va_runV (As := [.int 0]) (rest := []) ⟨hx, hb, hml, hown, hts⟩ (c_X10_add l hnt dC dI a0 m0 l1 l2 0 ((-7607539672227747011)) 3973943119164013667 H.size (by decide +kernel)) (cwV 1 hts (goodIn_of _ (by decide +kernel)) rfl rfl rfl (by decide +kernel) ⟨Nat.le_of_ble_eq_true rfl, Nat.le_of_ble_eq_true rfl⟩) ⟨fun a U g mk q => by obtain ⟨q0, q1, qP, qK, qD, qZ⟩ := q; exact ⟨q0, q1, qP, va_K.moved (u := U) (U := U.calling g mk a) (Vm.Alike.refl U.vm) qK, qD, qZ.call⟩, va_recv hKc hPc (ci := 12) (q0 := 0) rfl rfl, fun U hU hW => ⟨rfl, by rw [hU], by rw [hU]; exact hPc, va_K.moved hW.alike hKc, hDc.weaken (fun _ _ _ _ => trivial), by rw [hU]; exact hZc.warm hW⟩⟩ rfl rfl hl.1 rfl (lv_room (Nat.le_of_ble_eq_true rfl)) dX10_digest_26 ⟨Nat.le_of_ble_eq_true rfl, Nat.le_of_ble_eq_true rfl⟩) hS (fun q _ h => hFc q h) hFc (fun u t H1 locs ht hvm hw hB hz1 hk1 hS => ?_)
  obtain ⟨hP1, hK1, hD1⟩ := hB
  rw [ht] at hP1
  have hK1 := va_K.moved hvm.symm hK1
  obtain ⟨hP, hD⟩ := va_join (wr := [(l1, .inr (1, [.int 0, .ref a0, .int 0])), (l2, .inr (1, [.int 0, .ref a0, .int 0]))]) (w1 := [(m0, .inr (12, [.int 0, .ref l1, .ref l2, .int 0, .int 0, .int 0, .long 3973943119164013667]))]) hP hD [0] [1, 2] rfl rfl (by decide) (by decide) hk1 hFc hP1 hD1
  have hK := (hK.sub (tys' := []) [] rfl).app hK1
  generalize H1 = H at hP hS ⊢
  have hP : va_P (dC, dI) vwCl [(l1, .inr (1, [.int 0, .ref a0, .int 0])), (l2, .inr (1, [.int 0, .ref a0, .int 0])), (m0, .inr (12, [.int 0, .ref l1, .ref l2, .int 0, .int 0, .int 0, .long 3973943119164013667]))] H := hP
  have hD : va_D A [(l1, .inr (1, [.int 0, .ref a0, .int 0])), (l2, .inr (1, [.int 0, .ref a0, .int 0])), (m0, .inr (12, [.int 0, .ref l1, .ref l2, .int 0, .int 0, .int 0, .long 3973943119164013667]))] := hD
  have hK : va_K (dC, dI) vwCl [] s := hK
  refine W.widen (k := 33) (n := 220) (Nat.le_of_ble_eq_true rfl) (Nat.le_of_ble_eq_true rfl) ?_
  refine lv_iinc (v := 11) (lv' := [(1, .int 11), (0, .ref m0)]) hx hb dX10_digest_29 hl (k := 0) rfl (by decide) (by decide) rfl (fun ls hl => ?_)
  refine lv_goto (tgt := 14) hx hb dX10_digest_32 (by decide) ?_
  refine lv_iload_n hx hb dX10_digest_14 rfl (lv_at hl 0 rfl) ?_
  refine lv_bipush (v := 11) hx hb dX10_digest_15 (by decide) ?_
  refine lv_icmp_ge (tgt := 35) hx hb dX10_digest_17 (by decide) (fun c_34 => ?_) (fun c_34 => ?_)
  rotate_left
  · (first | exact absurd c_34 (by decide) | exact absurd (by decide) c_34)
  refine lv_aload_n hx hb dX10_digest_35 rfl (lv_at hl 1 rfl) ?_
  refine va_get (D := (dC, dI)) (ci := 12) (v := .ref l1) (C := RX10) (T := TX10) (N := 7) hx hb hts hiX10 hown hK hP 2 rfl rfl 1 (by decide) (hts (.fieldLink RX10 10 "HaltingaleModel" "machines" "Ljava/util/ArrayList;") (by decide +kernel)) (fun _ h9 => h9) rfl dX10_digest_36 ?_
  have hPc := hP.sub (ws' := [(l1, .inr (1, [.int 0, .ref a0, .int 0]))]) [0] rfl
  have hDc := hD.sub (ws' := [(l1, .inr (1, [.int 0, .ref a0, .int 0]))]) [0] (by decide) rfl
  have hKc := hK.sub (tys' := []) [] rfl
  have hFc := va_free (wc := [(l1, .inr (1, [.int 0, .ref a0, .int 0]))]) hD hS hA [0] rfl
  have hZc := ((hZ.kept hS.2.1).narrow hFc)
  refine va_callr (va_runV (As := []) (rest := []) ⟨hx, hb, hml, hown, hts⟩ (c_Jx4a65c_iterator_32c93 l hnt dC dI a0 l1 H.size ) (cwV 0 hts (goodIn_of _ (by decide +kernel)) rfl rfl rfl (by decide +kernel) ⟨Nat.le_of_ble_eq_true rfl, Nat.le_of_ble_eq_true rfl⟩) ⟨fun a U g mk q => by obtain ⟨q0, q1, qP, qK, qD, qZ⟩ := q; exact ⟨q0, q1, qP, va_K.moved (u := U) (U := U.calling g mk a) (Vm.Alike.refl U.vm) qK, qD, qZ.call⟩, va_recv hKc hPc (ci := 1) (q0 := 0) rfl rfl, fun U hU hW => ⟨rfl, by rw [hU], by rw [hU]; exact hPc, va_K.moved hW.alike hKc, hDc.weaken (fun _ _ _ _ => trivial), by rw [hU]; exact hZc.warm hW⟩⟩ rfl rfl hl.1 rfl (lv_room (Nat.le_of_ble_eq_true rfl)) dX10_digest_39 ⟨Nat.le_of_ble_eq_true rfl, Nat.le_of_ble_eq_true rfl⟩) hS (fun q _ h => hFc q h) hFc (fun u r_35 t H1 locs ht hvm hw hB hz1 hk1 hS => ?_)
  obtain ⟨hP1, hK1, hD1⟩ := hB
  rw [ht] at hP1
  have hK1 := va_K.moved hvm.symm hK1
  obtain ⟨hP, hD⟩ := va_join (wr := [(l2, .inr (1, [.int 0, .ref a0, .int 0])), (m0, .inr (12, [.int 0, .ref l1, .ref l2, .int 0, .int 0, .int 0, .long 3973943119164013667]))]) (w1 := [(r_35, .inr (0, [.int 0, .int (-1), .int 0, .ref l1])), (l1, .inr (1, [.int 0, .ref a0, .int 0]))]) hP hD [0] [1, 2] rfl rfl (by decide) (by decide) hk1 hFc hP1 hD1
  have hK := (hK.sub (tys' := []) [] rfl).app hK1
  generalize H1 = H at hP hS ⊢
  have hP : va_P (dC, dI) vwCl [(l2, .inr (1, [.int 0, .ref a0, .int 0])), (m0, .inr (12, [.int 0, .ref l1, .ref l2, .int 0, .int 0, .int 0, .long 3973943119164013667])), (r_35, .inr (0, [.int 0, .int (-1), .int 0, .ref l1])), (l1, .inr (1, [.int 0, .ref a0, .int 0]))] H := hP
  have hD : va_D A [(l2, .inr (1, [.int 0, .ref a0, .int 0])), (m0, .inr (12, [.int 0, .ref l1, .ref l2, .int 0, .int 0, .int 0, .long 3973943119164013667])), (r_35, .inr (0, [.int 0, .int (-1), .int 0, .ref l1])), (l1, .inr (1, [.int 0, .ref a0, .int 0]))] := hD
  have hK : va_K (dC, dI) vwCl [] s := hK
  refine W.widen (k := 34) (n := 224) (Nat.le_of_ble_eq_true rfl) (Nat.le_of_ble_eq_true rfl) ?_
  refine lv_astore_n (lv' := [(1, .ref r_35), (0, .ref m0)]) hx hb dX10_digest_42 rfl hl (by decide) rfl (fun ls hl => ?_)
  refine lv_aload_n hx hb dX10_digest_43 rfl (lv_at hl 0 rfl) ?_
  have hPc := hP.sub (ws' := [(r_35, .inr (0, [.int 0, .int (-1), .int 0, .ref l1])), (l1, .inr (1, [.int 0, .ref a0, .int 0]))]) [2, 3] rfl
  have hDc := hD.sub (ws' := [(r_35, .inr (0, [.int 0, .int (-1), .int 0, .ref l1])), (l1, .inr (1, [.int 0, .ref a0, .int 0]))]) [2, 3] (by decide) rfl
  have hKc := hK.sub (tys' := []) [] rfl
  have hFc := va_free (wc := [(r_35, .inr (0, [.int 0, .int (-1), .int 0, .ref l1])), (l1, .inr (1, [.int 0, .ref a0, .int 0]))]) hD hS hA [2, 3] rfl
  have hZc := ((hZ.kept hS.2.1).narrow hFc)
  refine va_callFi (va_runF (As := []) (rest := []) (zz_at hK 0 rfl) ⟨hx, hb, hml, hown, hts⟩ (c_Jx35411_hasNext_aae02 l hnt dC dI a0 r_35 l1 H.size ) (va_cwF 0 hts (goodIn_of _ (by decide +kernel)) rfl rfl rfl hZ.fwN (by decide +kernel) ⟨Nat.le_of_ble_eq_true rfl, Nat.le_of_ble_eq_true rfl⟩) ⟨fun a U g mk q => by obtain ⟨q0, q1, qP, qK, qD, qZ⟩ := q; exact ⟨q0, q1, qP, va_K.moved (u := U) (U := U.calling g mk a) (Vm.Alike.refl U.vm) qK, qD, qZ.call⟩, va_recv hKc hPc (ci := 0) (q0 := 0) rfl rfl, fun U hU hW => ⟨rfl, by rw [hU], by rw [hU]; exact hPc, va_K.moved hW.alike hKc, hDc.weaken (fun _ _ _ _ => trivial), by rw [hU]; exact hZc.warm hW⟩⟩ rfl rfl hl.1 rfl (lv_room (Nat.le_of_ble_eq_true rfl)) dX10_digest_44 ⟨Nat.le_of_ble_eq_true rfl, Nat.le_of_ble_eq_true rfl⟩) hS (fun q _ h => hFc q h) hFc (fun r_36 u t H1 locs ht hvm hw hB hz1 hk1 hS => ?_)
  obtain ⟨hP1, hK1, hD1⟩ := hB
  rw [ht] at hP1
  have hK1 := va_K.moved hvm.symm hK1
  obtain ⟨hP, hD⟩ := va_join (wr := [(l2, .inr (1, [.int 0, .ref a0, .int 0])), (m0, .inr (12, [.int 0, .ref l1, .ref l2, .int 0, .int 0, .int 0, .long 3973943119164013667]))]) (w1 := [(r_35, .inr (0, [.int 0, .int (-1), .int 0, .ref l1])), (l1, .inr (1, [.int 0, .ref a0, .int 0]))]) hP hD [2, 3] [0, 1] rfl rfl (by decide) (by decide) hk1 hFc hP1 hD1
  have hK := (hK.sub (tys' := []) [] rfl).app hK1
  generalize H1 = H at hP hS ⊢
  have hP : va_P (dC, dI) vwCl [(l2, .inr (1, [.int 0, .ref a0, .int 0])), (m0, .inr (12, [.int 0, .ref l1, .ref l2, .int 0, .int 0, .int 0, .long 3973943119164013667])), (r_35, .inr (0, [.int 0, .int (-1), .int 0, .ref l1])), (l1, .inr (1, [.int 0, .ref a0, .int 0]))] H := hP
  have hD : va_D A [(l2, .inr (1, [.int 0, .ref a0, .int 0])), (m0, .inr (12, [.int 0, .ref l1, .ref l2, .int 0, .int 0, .int 0, .long 3973943119164013667])), (r_35, .inr (0, [.int 0, .int (-1), .int 0, .ref l1])), (l1, .inr (1, [.int 0, .ref a0, .int 0]))] := hD
  have hK : va_K (dC, dI) vwCl [] s := hK
  refine W.widen (k := 34) (n := 224) (Nat.le_of_ble_eq_true rfl) (Nat.le_of_ble_eq_true rfl) ?_
  obtain rfl : r_36 = 0 := hw
  refine lv_if_eq (tgt := 188) hx hb dX10_digest_49 (by decide) (fun c_37 => ?_) (fun c_37 => ?_)
  rotate_left
  · (first | exact absurd c_37 (by decide) | exact absurd (by decide) c_37)
  refine lv_iconst (v := 0) hx hb dX10_digest_188 (by decide) ?_
  refine lv_istore_n (lv' := [(1, .int 0), (0, .ref m0)]) hx hb dX10_digest_189 rfl hl (by decide) rfl (fun ls hl => ?_)
  refine lv_iload_n hx hb dX10_digest_190 rfl (lv_at hl 0 rfl) ?_
  refine lv_aload_n hx hb dX10_digest_191 rfl (lv_at hl 1 rfl) ?_
  refine va_get (D := (dC, dI)) (ci := 12) (v := .ref l2) (C := RX10) (T := TX10) (N := 7) hx hb hts hiX10 hown hK hP 1 rfl rfl 2 (by decide) (hts (.fieldLink RX10 16 "HaltingaleModel" "tags" "Ljava/util/ArrayList;") (by decide +kernel)) (fun _ h9 => h9) rfl dX10_digest_192 ?_
  have hPc := hP.sub (ws' := [(l2, .inr (1, [.int 0, .ref a0, .int 0]))]) [0] rfl
  have hDc := hD.sub (ws' := [(l2, .inr (1, [.int 0, .ref a0, .int 0]))]) [0] (by decide) rfl
  have hKc := hK.sub (tys' := []) [] rfl
  have hFc := va_free (wc := [(l2, .inr (1, [.int 0, .ref a0, .int 0]))]) hD hS hA [0] rfl
  have hZc := ((hZ.kept hS.2.1).narrow hFc)
  refine va_calli (va_runV (As := []) (rest := [.int 0]) ⟨hx, hb, hml, hown, hts⟩ (c_Jx4a65c_size_8abf5 l hnt dC dI a0 l2 0 a0 0 H.size ) (cwV 0 hts (goodIn_of _ (by decide +kernel)) rfl rfl rfl (by decide +kernel) ⟨Nat.le_of_ble_eq_true rfl, Nat.le_of_ble_eq_true rfl⟩) ⟨fun a U g mk q => by obtain ⟨q0, q1, qP, qK, qD, qZ⟩ := q; exact ⟨q0, q1, qP, va_K.moved (u := U) (U := U.calling g mk a) (Vm.Alike.refl U.vm) qK, qD, qZ.call⟩, va_recv hKc hPc (ci := 1) (q0 := 0) rfl rfl, fun U hU hW => ⟨rfl, by rw [hU], by rw [hU]; exact hPc, va_K.moved hW.alike hKc, hDc.weaken (fun _ _ _ _ => trivial), by rw [hU]; exact hZc.warm hW⟩⟩ rfl rfl hl.1 rfl (lv_room (Nat.le_of_ble_eq_true rfl)) dX10_digest_195 ⟨Nat.le_of_ble_eq_true rfl, Nat.le_of_ble_eq_true rfl⟩) hS (fun q _ h => hFc q h) hFc (fun r_38 u t H1 locs ht hvm hw hB hz1 hk1 hS => ?_)
  obtain ⟨hP1, hK1, hD1⟩ := hB
  rw [ht] at hP1
  have hK1 := va_K.moved hvm.symm hK1
  obtain ⟨hP, hD⟩ := va_join (wr := [(m0, .inr (12, [.int 0, .ref l1, .ref l2, .int 0, .int 0, .int 0, .long 3973943119164013667])), (r_35, .inr (0, [.int 0, .int (-1), .int 0, .ref l1])), (l1, .inr (1, [.int 0, .ref a0, .int 0]))]) (w1 := [(l2, .inr (1, [.int 0, .ref a0, .int 0]))]) hP hD [0] [1, 2, 3] rfl rfl (by decide) (by decide) hk1 hFc hP1 hD1
  have hK := (hK.sub (tys' := []) [] rfl).app hK1
  generalize H1 = H at hP hS ⊢
  have hP : va_P (dC, dI) vwCl [(m0, .inr (12, [.int 0, .ref l1, .ref l2, .int 0, .int 0, .int 0, .long 3973943119164013667])), (r_35, .inr (0, [.int 0, .int (-1), .int 0, .ref l1])), (l1, .inr (1, [.int 0, .ref a0, .int 0])), (l2, .inr (1, [.int 0, .ref a0, .int 0]))] H := hP
  have hD : va_D A [(m0, .inr (12, [.int 0, .ref l1, .ref l2, .int 0, .int 0, .int 0, .long 3973943119164013667])), (r_35, .inr (0, [.int 0, .int (-1), .int 0, .ref l1])), (l1, .inr (1, [.int 0, .ref a0, .int 0])), (l2, .inr (1, [.int 0, .ref a0, .int 0]))] := hD
  have hK : va_K (dC, dI) vwCl [] s := hK
  refine W.widen (k := 34) (n := 224) (Nat.le_of_ble_eq_true rfl) (Nat.le_of_ble_eq_true rfl) ?_
  obtain rfl : r_38 = 0 := hw
  refine lv_icmp_ge (tgt := 220) hx hb dX10_digest_198 (by decide) (fun c_39 => ?_) (fun c_39 => ?_)
  rotate_left
  · (first | exact absurd c_39 (by decide) | exact absurd (by decide) c_39)
  refine lv_aload_n hx hb dX10_digest_220 rfl (lv_at hl 1 rfl) ?_
  refine lv_aload_n hx hb dX10_digest_221 rfl (lv_at hl 1 rfl) ?_
  refine lv_iconst (v := 0) hx hb dX10_digest_222 (by decide) ?_
  have hPc := hP.sub (ws' := [(m0, .inr (12, [.int 0, .ref l1, .ref l2, .int 0, .int 0, .int 0, .long 3973943119164013667])), (l1, .inr (1, [.int 0, .ref a0, .int 0]))]) [0, 2] rfl
  have hDc := hD.sub (ws' := [(m0, .inr (12, [.int 0, .ref l1, .ref l2, .int 0, .int 0, .int 0, .long 3973943119164013667])), (l1, .inr (1, [.int 0, .ref a0, .int 0]))]) [0, 2] (by decide) rfl
  have hKc := hK.sub (tys' := []) [] rfl
  have hFc := va_free (wc := [(m0, .inr (12, [.int 0, .ref l1, .ref l2, .int 0, .int 0, .int 0, .long 3973943119164013667])), (l1, .inr (1, [.int 0, .ref a0, .int 0]))]) hD hS hA [0, 2] rfl
  have hZc := ((hZ.kept hS.2.1).narrow hFc)
  refine va_calli (va_runV (As := [.int 0]) (rest := [.ref m0]) ⟨hx, hb, hml, hown, hts⟩ (c_X10_championNow l hnt dC dI a0 m0 l1 l2 0 3973943119164013667 H.size ) (cwV 1 hts (goodIn_of _ (by decide +kernel)) rfl rfl rfl (by decide +kernel) ⟨Nat.le_of_ble_eq_true rfl, Nat.le_of_ble_eq_true rfl⟩) ⟨fun a U g mk q => by obtain ⟨q0, q1, qP, qK, qD, qZ⟩ := q; exact ⟨q0, q1, qP, va_K.moved (u := U) (U := U.calling g mk a) (Vm.Alike.refl U.vm) qK, qD, qZ.call⟩, va_recv hKc hPc (ci := 12) (q0 := 0) rfl rfl, fun U hU hW => ⟨rfl, by rw [hU], by rw [hU]; exact hPc, va_K.moved hW.alike hKc, hDc.weaken (fun _ _ _ _ => trivial), by rw [hU]; exact hZc.warm hW⟩⟩ rfl rfl hl.1 rfl (lv_room (Nat.le_of_ble_eq_true rfl)) dX10_digest_223 ⟨Nat.le_of_ble_eq_true rfl, Nat.le_of_ble_eq_true rfl⟩) hS (fun q _ h => hFc q h) hFc (fun r_40 u t H1 locs ht hvm hw hB hz1 hk1 hS => ?_)
  obtain ⟨hP1, hK1, hD1⟩ := hB
  rw [ht] at hP1
  have hK1 := va_K.moved hvm.symm hK1
  obtain ⟨hP, hD⟩ := va_join (wr := [(r_35, .inr (0, [.int 0, .int (-1), .int 0, .ref l1])), (l2, .inr (1, [.int 0, .ref a0, .int 0]))]) (w1 := [(m0, .inr (12, [.int 0, .ref l1, .ref l2, .int 0, .int 0, .int 0, .long 3973943119164013667])), (l1, .inr (1, [.int 0, .ref a0, .int 0]))]) hP hD [0, 2] [1, 3] rfl rfl (by decide) (by decide) hk1 hFc hP1 hD1
  have hK := (hK.sub (tys' := []) [] rfl).app hK1
  generalize H1 = H at hP hS ⊢
  have hP : va_P (dC, dI) vwCl [(r_35, .inr (0, [.int 0, .int (-1), .int 0, .ref l1])), (l2, .inr (1, [.int 0, .ref a0, .int 0])), (m0, .inr (12, [.int 0, .ref l1, .ref l2, .int 0, .int 0, .int 0, .long 3973943119164013667])), (l1, .inr (1, [.int 0, .ref a0, .int 0]))] H := hP
  have hD : va_D A [(r_35, .inr (0, [.int 0, .int (-1), .int 0, .ref l1])), (l2, .inr (1, [.int 0, .ref a0, .int 0])), (m0, .inr (12, [.int 0, .ref l1, .ref l2, .int 0, .int 0, .int 0, .long 3973943119164013667])), (l1, .inr (1, [.int 0, .ref a0, .int 0]))] := hD
  have hK : va_K (dC, dI) vwCl [] s := hK
  refine W.widen (k := 34) (n := 224) (Nat.le_of_ble_eq_true rfl) (Nat.le_of_ble_eq_true rfl) ?_
  obtain rfl : r_40 = (-1) := hw
  have hPc := hP.sub (ws' := [(m0, .inr (12, [.int 0, .ref l1, .ref l2, .int 0, .int 0, .int 0, .long 3973943119164013667]))]) [2] rfl
  have hDc := hD.sub (ws' := [(m0, .inr (12, [.int 0, .ref l1, .ref l2, .int 0, .int 0, .int 0, .long 3973943119164013667]))]) [2] (by decide) rfl
  have hKc := hK.sub (tys' := []) [] rfl
  have hFc := va_free (wc := [(m0, .inr (12, [.int 0, .ref l1, .ref l2, .int 0, .int 0, .int 0, .long 3973943119164013667]))]) hD hS hA [2] rfl
  have hZc := ((hZ.kept hS.2.1).narrow hFc)
  refine va_callv (va_runV (As := [.int (-1)]) (rest := []) ⟨hx, hb, hml, hown, hts⟩ (c_X10_add l hnt dC dI a0 m0 l1 l2 ((-1)) 3973943119164013667 ((-5934971821882437636)) H.size (by decide +kernel)) (cwV 1 hts (goodIn_of _ (by decide +kernel)) rfl rfl rfl (by decide +kernel) ⟨Nat.le_of_ble_eq_true rfl, Nat.le_of_ble_eq_true rfl⟩) ⟨fun a U g mk q => by obtain ⟨q0, q1, qP, qK, qD, qZ⟩ := q; exact ⟨q0, q1, qP, va_K.moved (u := U) (U := U.calling g mk a) (Vm.Alike.refl U.vm) qK, qD, qZ.call⟩, va_recv hKc hPc (ci := 12) (q0 := 0) rfl rfl, fun U hU hW => ⟨rfl, by rw [hU], by rw [hU]; exact hPc, va_K.moved hW.alike hKc, hDc.weaken (fun _ _ _ _ => trivial), by rw [hU]; exact hZc.warm hW⟩⟩ rfl rfl hl.1 rfl (lv_room (Nat.le_of_ble_eq_true rfl)) dX10_digest_226 ⟨Nat.le_of_ble_eq_true rfl, Nat.le_of_ble_eq_true rfl⟩) hS (fun q _ h => hFc q h) hFc (fun u t H1 locs ht hvm hw hB hz1 hk1 hS => ?_)
  obtain ⟨hP1, hK1, hD1⟩ := hB
  rw [ht] at hP1
  have hK1 := va_K.moved hvm.symm hK1
  obtain ⟨hP, hD⟩ := va_join (wr := [(r_35, .inr (0, [.int 0, .int (-1), .int 0, .ref l1])), (l2, .inr (1, [.int 0, .ref a0, .int 0])), (l1, .inr (1, [.int 0, .ref a0, .int 0]))]) (w1 := [(m0, .inr (12, [.int 0, .ref l1, .ref l2, .int 0, .int 0, .int 0, .long (-5934971821882437636)]))]) hP hD [2] [0, 1, 3] rfl rfl (by decide) (by decide) hk1 hFc hP1 hD1
  have hK := (hK.sub (tys' := []) [] rfl).app hK1
  generalize H1 = H at hP hS ⊢
  have hP : va_P (dC, dI) vwCl [(r_35, .inr (0, [.int 0, .int (-1), .int 0, .ref l1])), (l2, .inr (1, [.int 0, .ref a0, .int 0])), (l1, .inr (1, [.int 0, .ref a0, .int 0])), (m0, .inr (12, [.int 0, .ref l1, .ref l2, .int 0, .int 0, .int 0, .long (-5934971821882437636)]))] H := hP
  have hD : va_D A [(r_35, .inr (0, [.int 0, .int (-1), .int 0, .ref l1])), (l2, .inr (1, [.int 0, .ref a0, .int 0])), (l1, .inr (1, [.int 0, .ref a0, .int 0])), (m0, .inr (12, [.int 0, .ref l1, .ref l2, .int 0, .int 0, .int 0, .long (-5934971821882437636)]))] := hD
  have hK : va_K (dC, dI) vwCl [] s := hK
  refine W.widen (k := 34) (n := 224) (Nat.le_of_ble_eq_true rfl) (Nat.le_of_ble_eq_true rfl) ?_
  refine lv_aload_n hx hb dX10_digest_229 rfl (lv_at hl 1 rfl) ?_
  refine lv_aload_n hx hb dX10_digest_230 rfl (lv_at hl 1 rfl) ?_
  refine lv_iconst (v := 1) hx hb dX10_digest_231 (by decide) ?_
  have hPc := hP.sub (ws' := [(m0, .inr (12, [.int 0, .ref l1, .ref l2, .int 0, .int 0, .int 0, .long (-5934971821882437636)])), (l1, .inr (1, [.int 0, .ref a0, .int 0]))]) [3, 2] rfl
  have hDc := hD.sub (ws' := [(m0, .inr (12, [.int 0, .ref l1, .ref l2, .int 0, .int 0, .int 0, .long (-5934971821882437636)])), (l1, .inr (1, [.int 0, .ref a0, .int 0]))]) [3, 2] (by decide) rfl
  have hKc := hK.sub (tys' := []) [] rfl
  have hFc := va_free (wc := [(m0, .inr (12, [.int 0, .ref l1, .ref l2, .int 0, .int 0, .int 0, .long (-5934971821882437636)])), (l1, .inr (1, [.int 0, .ref a0, .int 0]))]) hD hS hA [3, 2] rfl
  have hZc := ((hZ.kept hS.2.1).narrow hFc)
  refine va_calli (va_runV (As := [.int 1]) (rest := [.ref m0]) ⟨hx, hb, hml, hown, hts⟩ (c_X10_championNow l hnt dC dI a0 m0 l1 l2 1 ((-5934971821882437636)) H.size ) (cwV 1 hts (goodIn_of _ (by decide +kernel)) rfl rfl rfl (by decide +kernel) ⟨Nat.le_of_ble_eq_true rfl, Nat.le_of_ble_eq_true rfl⟩) ⟨fun a U g mk q => by obtain ⟨q0, q1, qP, qK, qD, qZ⟩ := q; exact ⟨q0, q1, qP, va_K.moved (u := U) (U := U.calling g mk a) (Vm.Alike.refl U.vm) qK, qD, qZ.call⟩, va_recv hKc hPc (ci := 12) (q0 := 0) rfl rfl, fun U hU hW => ⟨rfl, by rw [hU], by rw [hU]; exact hPc, va_K.moved hW.alike hKc, hDc.weaken (fun _ _ _ _ => trivial), by rw [hU]; exact hZc.warm hW⟩⟩ rfl rfl hl.1 rfl (lv_room (Nat.le_of_ble_eq_true rfl)) dX10_digest_232 ⟨Nat.le_of_ble_eq_true rfl, Nat.le_of_ble_eq_true rfl⟩) hS (fun q _ h => hFc q h) hFc (fun r_42 u t H1 locs ht hvm hw hB hz1 hk1 hS => ?_)
  obtain ⟨hP1, hK1, hD1⟩ := hB
  rw [ht] at hP1
  have hK1 := va_K.moved hvm.symm hK1
  obtain ⟨hP, hD⟩ := va_join (wr := [(r_35, .inr (0, [.int 0, .int (-1), .int 0, .ref l1])), (l2, .inr (1, [.int 0, .ref a0, .int 0]))]) (w1 := [(m0, .inr (12, [.int 0, .ref l1, .ref l2, .int 0, .int 0, .int 0, .long (-5934971821882437636)])), (l1, .inr (1, [.int 0, .ref a0, .int 0]))]) hP hD [3, 2] [0, 1] rfl rfl (by decide) (by decide) hk1 hFc hP1 hD1
  have hK := (hK.sub (tys' := []) [] rfl).app hK1
  generalize H1 = H at hP hS ⊢
  have hP : va_P (dC, dI) vwCl [(r_35, .inr (0, [.int 0, .int (-1), .int 0, .ref l1])), (l2, .inr (1, [.int 0, .ref a0, .int 0])), (m0, .inr (12, [.int 0, .ref l1, .ref l2, .int 0, .int 0, .int 0, .long (-5934971821882437636)])), (l1, .inr (1, [.int 0, .ref a0, .int 0]))] H := hP
  have hD : va_D A [(r_35, .inr (0, [.int 0, .int (-1), .int 0, .ref l1])), (l2, .inr (1, [.int 0, .ref a0, .int 0])), (m0, .inr (12, [.int 0, .ref l1, .ref l2, .int 0, .int 0, .int 0, .long (-5934971821882437636)])), (l1, .inr (1, [.int 0, .ref a0, .int 0]))] := hD
  have hK : va_K (dC, dI) vwCl [] s := hK
  refine W.widen (k := 34) (n := 224) (Nat.le_of_ble_eq_true rfl) (Nat.le_of_ble_eq_true rfl) ?_
  obtain rfl : r_42 = (-1) := hw
  have hPc := hP.sub (ws' := [(m0, .inr (12, [.int 0, .ref l1, .ref l2, .int 0, .int 0, .int 0, .long (-5934971821882437636)]))]) [2] rfl
  have hDc := hD.sub (ws' := [(m0, .inr (12, [.int 0, .ref l1, .ref l2, .int 0, .int 0, .int 0, .long (-5934971821882437636)]))]) [2] (by decide) rfl
  have hKc := hK.sub (tys' := []) [] rfl
  have hFc := va_free (wc := [(m0, .inr (12, [.int 0, .ref l1, .ref l2, .int 0, .int 0, .int 0, .long (-5934971821882437636)]))]) hD hS hA [2] rfl
  have hZc := ((hZ.kept hS.2.1).narrow hFc)
  refine va_callv (va_runV (As := [.int (-1)]) (rest := []) ⟨hx, hb, hml, hown, hts⟩ (c_X10_add l hnt dC dI a0 m0 l1 l2 ((-1)) ((-5934971821882437636)) 483314258739949443 H.size (by decide +kernel)) (cwV 1 hts (goodIn_of _ (by decide +kernel)) rfl rfl rfl (by decide +kernel) ⟨Nat.le_of_ble_eq_true rfl, Nat.le_of_ble_eq_true rfl⟩) ⟨fun a U g mk q => by obtain ⟨q0, q1, qP, qK, qD, qZ⟩ := q; exact ⟨q0, q1, qP, va_K.moved (u := U) (U := U.calling g mk a) (Vm.Alike.refl U.vm) qK, qD, qZ.call⟩, va_recv hKc hPc (ci := 12) (q0 := 0) rfl rfl, fun U hU hW => ⟨rfl, by rw [hU], by rw [hU]; exact hPc, va_K.moved hW.alike hKc, hDc.weaken (fun _ _ _ _ => trivial), by rw [hU]; exact hZc.warm hW⟩⟩ rfl rfl hl.1 rfl (lv_room (Nat.le_of_ble_eq_true rfl)) dX10_digest_235 ⟨Nat.le_of_ble_eq_true rfl, Nat.le_of_ble_eq_true rfl⟩) hS (fun q _ h => hFc q h) hFc (fun u t H1 locs ht hvm hw hB hz1 hk1 hS => ?_)
  obtain ⟨hP1, hK1, hD1⟩ := hB
  rw [ht] at hP1
  have hK1 := va_K.moved hvm.symm hK1
  obtain ⟨hP, hD⟩ := va_join (wr := [(r_35, .inr (0, [.int 0, .int (-1), .int 0, .ref l1])), (l2, .inr (1, [.int 0, .ref a0, .int 0])), (l1, .inr (1, [.int 0, .ref a0, .int 0]))]) (w1 := [(m0, .inr (12, [.int 0, .ref l1, .ref l2, .int 0, .int 0, .int 0, .long 483314258739949443]))]) hP hD [2] [0, 1, 3] rfl rfl (by decide) (by decide) hk1 hFc hP1 hD1
  have hK := (hK.sub (tys' := []) [] rfl).app hK1
  generalize H1 = H at hP hS ⊢
  have hP : va_P (dC, dI) vwCl [(r_35, .inr (0, [.int 0, .int (-1), .int 0, .ref l1])), (l2, .inr (1, [.int 0, .ref a0, .int 0])), (l1, .inr (1, [.int 0, .ref a0, .int 0])), (m0, .inr (12, [.int 0, .ref l1, .ref l2, .int 0, .int 0, .int 0, .long 483314258739949443]))] H := hP
  have hD : va_D A [(r_35, .inr (0, [.int 0, .int (-1), .int 0, .ref l1])), (l2, .inr (1, [.int 0, .ref a0, .int 0])), (l1, .inr (1, [.int 0, .ref a0, .int 0])), (m0, .inr (12, [.int 0, .ref l1, .ref l2, .int 0, .int 0, .int 0, .long 483314258739949443]))] := hD
  have hK : va_K (dC, dI) vwCl [] s := hK
  refine W.widen (k := 34) (n := 224) (Nat.le_of_ble_eq_true rfl) (Nat.le_of_ble_eq_true rfl) ?_
  refine lv_aload_n hx hb dX10_digest_238 rfl (lv_at hl 1 rfl) ?_
  refine va_get (D := (dC, dI)) (ci := 12) (v := .long 483314258739949443) (C := RX10) (T := TX10) (N := 7) hx hb hts hiX10 hown hK hP 3 rfl rfl 6 (by decide) (hts (.fieldLink RX10 261 "HaltingaleModel" "sum" "J") (by decide +kernel)) (fun _ h9 => h9) rfl dX10_digest_239 ?_
  have hP9 := hP.sub (ws' := [(m0, .inr (12, [.int 0, .ref l1, .ref l2, .int 0, .int 0, .int 0, .long 483314258739949443]))]) [3] rfl
  have hD9 := hD.sub (ws' := [(m0, .inr (12, [.int 0, .ref l1, .ref l2, .int 0, .int 0, .int 0, .long 483314258739949443]))]) [3] (by decide) rfl
  have hK9 := hK.sub (tys' := []) [] rfl
  refine W.widen (k := 34) (n := 224) (Nat.le_of_ble_eq_true rfl) (Nat.le_of_ble_eq_true rfl) ?_
  exact W.lret (v := 483314258739949443) hx hb hr (fun t ht hW => ⟨⟨483314258739949443, (), rfl, rfl, ⟨by rw [ht]; exact hP9, va_K.moved hW.alike hK9, hD9⟩⟩, hS.F ht⟩) hS.2.2 dX10_digest_242
