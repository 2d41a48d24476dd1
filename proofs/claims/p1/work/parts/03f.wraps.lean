def zs_c_L_machine_ok : List Cond := .codeWith yL_machine cL_machine 4 (some .int) [(0, 9, 12, 13), (0, 9, 15, 15)] :: (([.code yX7_machine cX7_machine 2 (some .int), .code yX7_isWithin cX7_isWithin 3 (some .boolean), .methodLink RX7 49 yX7_isWithin, .static yX7_isWithin, .initialized RX7, .code yX7_require cX7_require 1 none, .methodLink RX7 53 yX7_require, .static yX7_require, .code yX7_requireRoomForMachine cX7_requireRoomForMachine 1 none, .fieldLink RX7 148 "Haltingale" "machineCount" "I", .methodLink RX7 57 yX7_requireRoomForMachine, .instanceMethod yX7_requireRoomForMachine, .selects RX7 yX7_requireRoomForMachine yX7_requireRoomForMachine, .classLink RX7 9 RX3, .instantiable RX3 7, .initialized RX3, .code yX3_init cX3_init 3 none, .methodLink RX3 3 objectInit, .instanceMethod objectInit, .code objectInit ⟨#[0xb1]⟩ 1 none, .fieldLink RX3 9 "Haltingale$Machine" "states" "I", .arrayClass .int, .fieldLink RX3 15 "Haltingale$Machine" "writes" "[I", .fieldLink RX3 19 "Haltingale$Machine" "moves" "[I", .fieldLink RX3 22 "Haltingale$Machine" "nexts" "[I", .fieldLink RX3 25 "Haltingale$Machine" "kind" "I", .fieldLink RX3 28 "Haltingale$Machine" "a" "I", .fieldLink RX3 31 "Haltingale$Machine" "b" "I", .methodLink RX7 60 yX3_init, .instanceMethod yX3_init, .code yX7_append cX7_append 2 (some .int), .fieldLink RX7 11 "Haltingale" "machines" "[LHaltingale$Machine;", .methodLink RX7 63 yX7_append, .instanceMethod yX7_append, .selects RX7 yX7_append yX7_append, .methodLink RL 7 yX7_machine, .instanceMethod yX7_machine, .selects RX7 yX7_machine yX7_machine] : List Cond) ++ wsX70 ++ wsX30)
set_option maxHeartbeats 4000000 in
set_option maxRecDepth 100000 in
/-- the law's machine -/
theorem c_L_machine_ok (l : Launch) (hnt : l.stackTraces = false) (dC : Nat → ClassId) (dI : Nat → Nat → Nat) (a0 : Nat) (h0 : Nat) (qm : Nat) (qt : Nat) (qw : Nat) (qc : Nat) (qb : Nat) (qg : Nat) (qo : Nat) (cL : ClassId) (cM : ClassId) (p0 : Int32) (sz : Nat) (hp : zw p0 2 4 = 1) : Met l yL_machine zs_c_L_machine_ok ({ frames := 3, cells := 4, slots := 31, locals := 55 }) (va_Pc [.ref h0, .int p0, .ref qo] (fun U => U.heap.size = sz ∧ va_P (dC, dI) vwCl [(h0, .inr (9, [.ref qm, .ref qt, .ref qw, .ref qc, .ref qb, .ref qg, .int 0, .int 0, .int 0, .int 0, .int 0])), (qm, .inl (cM, 12, .inr (.inr (.inr (.inr (fun _ => none)))))), (qo, .inl (cL, 1, .inr (.inl (fun _ => 0))))] U.heap ∧ va_K (dC, dI) vwCl [(cM, .object "Haltingale$Machine"), (cL, .long)] U ∧ va_D (fun _ => True) [(h0, .inr (9, [.ref qm, .ref qt, .ref qw, .ref qc, .ref qb, .ref qg, .int 0, .int 0, .int 0, .int 0, .int 0])), (qm, .inl (cM, 12, .inr (.inr (.inr (.inr (fun _ => none)))))), (qo, .inl (cL, 1, .inr (.inl (fun _ => 0))))] ∧ zB a0 (va_A [(h0, .inr (9, [.ref qm, .ref qt, .ref qw, .ref qc, .ref qb, .ref qg, .int 0, .int 0, .int 0, .int 0, .int 0])), (qm, .inl (cM, 12, .inr (.inr (.inr (.inr (fun _ => none)))))), (qo, .inl (cL, 1, .inr (.inl (fun _ => 0))))] sz) U U.heap)) (va_Qi (fun (r : Int32) (_ : Unit) => r = 0) (fun _ t => va_P (dC, dI) vwCl [(qo, .inl (cL, 1, .inr (.inl (vp_updL (fun _ => 0) ((0 : Int32).toNatClampNeg) 0))))] t.heap ∧ va_K (dC, dI) vwCl [(cL, .long)] t ∧ va_D (va_A [(h0, .inr (9, [.ref qm, .ref qt, .ref qw, .ref qc, .ref qb, .ref qg, .int 0, .int 0, .int 0, .int 0, .int 0])), (qm, .inl (cM, 12, .inr (.inr (.inr (.inr (fun _ => none)))))), (qo, .inl (cL, 1, .inr (.inl (fun _ => 0))))] sz) [(qo, .inl (cL, 1, .inr (.inl (vp_updL (fun _ => 0) ((0 : Int32).toNatClampNeg) 0))))]) (va_A [(h0, .inr (9, [.ref qm, .ref qt, .ref qw, .ref qc, .ref qb, .ref qg, .int 0, .int 0, .int 0, .int 0, .int 0])), (qm, .inl (cM, 12, .inr (.inr (.inr (.inr (fun _ => none)))))), (qo, .inl (cL, 1, .inr (.inl (fun _ => 0))))] sz)) 4 31 (va_A [(h0, .inr (9, [.ref qm, .ref qt, .ref qw, .ref qc, .ref qb, .ref qg, .int 0, .int 0, .int 0, .int 0, .int 0])), (qm, .inl (cM, 12, .inr (.inr (.inr (.inr (fun _ => none)))))), (qo, .inl (cL, 1, .inr (.inl (fun _ => 0))))] sz) := by
  refine va_MetW (cc := cL_machine) (maxL := 4) (ret := (some .int)) (hh := [(0, 9, 12, 13), (0, 9, 15, 15)]) (by decide) rfl ?_
  intro p e s m args below meth c s₁ B hml hv
  obtain ⟨rfl, hsz, hP, hK, hD0, hZ⟩ := hv
  have hx := B.exec
  have hb := B.bytes
  have hr := B.returns
  have hts := atoms_spec (ws := zs_c_L_machine_ok) B.pre
  have hown : s.vm.findClass RL = some m.cls := findClass_of_methodNamed B.named
  have hlocks := B.notSynchronized
  subst hsz
  have hD := hD0.self (sz := s.heap.size)
  generalize hAe : va_A [(h0, .inr (9, [.ref qm, .ref qt, .ref qw, .ref qc, .ref qb, .ref qg, .int 0, .int 0, .int 0, .int 0, .int 0])), (qm, .inl (cM, 12, .inr (.inr (.inr (.inr (fun _ => none)))))), (qo, .inl (cL, 1, .inr (.inl (fun _ => 0))))] s.heap.size = A at hD hZ ⊢
  have hA : ∀ q : Nat, s.heap.size ≤ q → A q := fun q h => by rw [← hAe]; exact Or.inr h
  have hS : va_S A s.heap s.heap [] := va_S.rf
  have hl := lv_entry ([.ref h0, .int p0, .ref qo]) (n := 4) (Nat.le_of_ble_eq_true rfl)
  rw [lg_entry_eq]
  generalize (lg_sl ([.ref h0, .int p0, .ref qo]) ++ List.replicate (4 - (lg_sl ([.ref h0, .int p0, .ref qo])).length) Slot.unset).toArray = ls at hl ⊢
  have hl : lv_has ls 4 [(0, .ref h0), (1, .int p0), (2, .ref qo)] := hl
  refine lv_aload_n hx hb dL_machine_0 rfl (lv_at hl 2 rfl) ?_
  refine lv_iconst (v := 0) hx hb dL_machine_1 (by decide) ?_
  refine lv_aload_n hx hb dL_machine_2 rfl (lv_at hl 0 rfl) ?_
  refine lv_iload_n hx hb dL_machine_3 rfl (lv_at hl 1 rfl) ?_
  have hPc := hP.sub (ws' := [(h0, .inr (9, [.ref qm, .ref qt, .ref qw, .ref qc, .ref qb, .ref qg, .int 0, .int 0, .int 0, .int 0, .int 0])), (qm, .inl (cM, 12, .inr (.inr (.inr (.inr (fun _ => none))))))]) [0, 1] rfl
  have hDc := hD.sub (ws' := [(h0, .inr (9, [.ref qm, .ref qt, .ref qw, .ref qc, .ref qb, .ref qg, .int 0, .int 0, .int 0, .int 0, .int 0])), (qm, .inl (cM, 12, .inr (.inr (.inr (.inr (fun _ => none))))))]) [0, 1] (by decide) rfl
  have hKc := hK.sub (tys' := [(cM, .object "Haltingale$Machine")]) [0] rfl
  have hFc := va_free (wc := [(h0, .inr (9, [.ref qm, .ref qt, .ref qw, .ref qc, .ref qb, .ref qg, .int 0, .int 0, .int 0, .int 0, .int 0])), (qm, .inl (cM, 12, .inr (.inr (.inr (.inr (fun _ => none))))))]) hD hS hA [0, 1] rfl
  have hZc := ((hZ.kept hS.2.1).narrow hFc)
  refine va_calli (va_runV (As := [.int p0]) (rest := [.int 0, .ref qo]) ⟨hx, hb, hml, hown, hts⟩ (c_X7_machine_ok l hnt dC dI a0 h0 qm qt qw qc qb qg cM p0 s.heap.size (by first | assumption | decide)) (cwV 1 hts (goodIn_of _ (by decide +kernel)) rfl rfl rfl (by decide +kernel) ⟨Nat.le_of_ble_eq_true rfl, Nat.le_of_ble_eq_true rfl⟩) ⟨fun a U g mk q => by obtain ⟨q0, q1, qP, qK, qD, qZ⟩ := q; exact ⟨q0, q1, qP, va_K.moved (u := U) (U := U.calling g mk a) (Vm.Alike.refl U.vm) qK, qD, qZ.call⟩, va_recv hKc hPc (ci := 9) (q0 := 0) rfl rfl, fun U hU hW => ⟨rfl, by rw [hU], by rw [hU]; exact hPc, va_K.moved hW.alike hKc, hDc.weaken (fun _ _ _ _ => trivial), by rw [hU]; exact hZc.warm hW⟩⟩ rfl rfl hl.1 rfl (lv_room (Nat.le_of_ble_eq_true rfl)) dL_machine_4 ⟨Nat.le_of_ble_eq_true rfl, Nat.le_of_ble_eq_true rfl⟩) hS (fun q _ h => hFc q h) hFc (fun r_1 u t H1 locs ht hvm hw hB hz1 hk1 hS => ?_)
  obtain ⟨hP1, hK1, hD1⟩ := hB
  rw [ht] at hP1
  have hK1 := va_K.moved hvm.symm hK1
  obtain ⟨hP, hD⟩ := va_join (wr := [(qo, .inl (cL, 1, .inr (.inl (fun _ => 0))))]) (w1 := []) hP hD [0, 1] [2] rfl rfl (by decide) (by decide) hk1 hFc hP1 hD1
  have hK := (hK.sub (tys' := [(cM, .object "Haltingale$Machine"), (cL, .long)]) [0, 1] rfl).app hK1
  generalize H1 = H at hP hS ⊢
  have hP : va_P (dC, dI) vwCl [(qo, .inl (cL, 1, .inr (.inl (fun _ => 0))))] H := hP
  have hD : va_D A [(qo, .inl (cL, 1, .inr (.inl (fun _ => 0))))] := hD
  have hK : va_K (dC, dI) vwCl [(cM, .object "Haltingale$Machine"), (cL, .long)] s := hK
  refine W.widen (k := 4) (n := 31) (Nat.le_of_ble_eq_true rfl) (Nat.le_of_ble_eq_true rfl) ?_
  obtain rfl : r_1 = 0 := hw
  refine lv_i2l (v := 0) hx hb dL_machine_7 (by decide) ?_
  refine va_last hx hb hK hP hD hS 0 1 rfl rfl (by unfold vp_in; decide) dL_machine_8 (fun H locs hP hD hS => ?_)
  have hP : va_P (dC, dI) vwCl [(qo, .inl (cL, 1, .inr (.inl (vp_updL (fun _ => 0) ((0 : Int32).toNatClampNeg) 0))))] H := hP
  have hD : va_D A [(qo, .inl (cL, 1, .inr (.inl (vp_updL (fun _ => 0) ((0 : Int32).toNatClampNeg) 0))))] := hD
  refine lv_goto (tgt := 18) hx hb dL_machine_9 (by decide) ?_
  refine lv_iconst (v := 0) hx hb dL_machine_18 (by decide) ?_
  have hP9 := hP.sub (ws' := [(qo, .inl (cL, 1, .inr (.inl (vp_updL (fun _ => 0) ((0 : Int32).toNatClampNeg) 0))))]) [0] rfl
  have hD9 := hD.sub (ws' := [(qo, .inl (cL, 1, .inr (.inl (vp_updL (fun _ => 0) ((0 : Int32).toNatClampNeg) 0))))]) [0] (by decide) rfl
  have hK9 := hK.sub (tys' := [(cL, .long)]) [1] rfl
  refine W.widen (k := 4) (n := 31) (Nat.le_of_ble_eq_true rfl) (Nat.le_of_ble_eq_true rfl) ?_
  exact W.iret (v := 0) hx hb hr (fun t ht hW => ⟨⟨0, (), rfl, rfl, ⟨by rw [ht]; exact hP9, va_K.moved hW.alike hK9, hD9⟩⟩, hS.F ht⟩) hS.2.2 dL_machine_19

def zs_c_L_tag_ok : List Cond := .codeWith yL_tag cL_tag 6 (some .int) [(0, 12, 15, 13), (0, 12, 19, 15)] :: (([.code yX7_tag cX7_tag 4 (some .int), .code yX7_isWithin cX7_isWithin 3 (some .boolean), .methodLink RX7 49 yX7_isWithin, .static yX7_isWithin, .initialized RX7, .code yX7_require cX7_require 1 none, .methodLink RX7 53 yX7_require, .static yX7_require, .fieldLink RX7 122 "Haltingale" "tagCount" "I", .fieldLink RX7 17 "Haltingale" "tags" "[LHaltingale$Tag;", .classLink RX7 15 RX5, .instantiable RX5 3, .initialized RX5, .code yX5_init cX5_init 4 none, .methodLink RX5 1 objectInit, .instanceMethod objectInit, .code objectInit ⟨#[0xb1]⟩ 1 none, .fieldLink RX5 7 "Haltingale$Tag" "cut" "I", .fieldLink RX5 13 "Haltingale$Tag" "zero" "I", .fieldLink RX5 16 "Haltingale$Tag" "one" "I", .methodLink RX7 127 yX5_init, .instanceMethod yX5_init, .methodLink RL 31 yX7_tag, .instanceMethod yX7_tag, .selects RX7 yX7_tag yX7_tag] : List Cond) ++ wsX70 ++ wsX50)
set_option maxHeartbeats 4000000 in
set_option maxRecDepth 100000 in
/-- the law's tag -/
theorem c_L_tag_ok (l : Launch) (hnt : l.stackTraces = false) (dC : Nat → ClassId) (dI : Nat → Nat → Nat) (a0 : Nat) (h0 : Nat) (qm : Nat) (qt : Nat) (qw : Nat) (qc : Nat) (qb : Nat) (qg : Nat) (qo : Nat) (cL : ClassId) (cT : ClassId) (p0 : Int32) (p1 : Int32) (p2 : Int32) (sz : Nat) (hp0 : zw p0 1 3 = 1) (hp1 : zw p1 1 63 = 1) (hp2 : zw p2 1 63 = 1) : Met l yL_tag zs_c_L_tag_ok ({ frames := 3, cells := 1, slots := 3, locals := 58 }) (va_Pc [.ref h0, .int p0, .int p1, .int p2, .ref qo] (fun U => U.heap.size = sz ∧ va_P (dC, dI) vwCl [(h0, .inr (9, [.ref qm, .ref qt, .ref qw, .ref qc, .ref qb, .ref qg, .int 0, .int 0, .int 0, .int 0, .int 0])), (qt, .inl (cT, 4, .inr (.inr (.inr (.inr (fun _ => none)))))), (qo, .inl (cL, 1, .inr (.inl (fun _ => 0))))] U.heap ∧ va_K (dC, dI) vwCl [(cT, .object "Haltingale$Tag"), (cL, .long)] U ∧ va_D (fun _ => True) [(h0, .inr (9, [.ref qm, .ref qt, .ref qw, .ref qc, .ref qb, .ref qg, .int 0, .int 0, .int 0, .int 0, .int 0])), (qt, .inl (cT, 4, .inr (.inr (.inr (.inr (fun _ => none)))))), (qo, .inl (cL, 1, .inr (.inl (fun _ => 0))))] ∧ zB a0 (va_A [(h0, .inr (9, [.ref qm, .ref qt, .ref qw, .ref qc, .ref qb, .ref qg, .int 0, .int 0, .int 0, .int 0, .int 0])), (qt, .inl (cT, 4, .inr (.inr (.inr (.inr (fun _ => none)))))), (qo, .inl (cL, 1, .inr (.inl (fun _ => 0))))] sz) U U.heap)) (va_Qi (fun (r : Int32) (_ : Unit) => r = 0) (fun _ t => va_P (dC, dI) vwCl [(qo, .inl (cL, 1, .inr (.inl (vp_updL (fun _ => 0) ((0 : Int32).toNatClampNeg) 0))))] t.heap ∧ va_K (dC, dI) vwCl [(cL, .long)] t ∧ va_D (va_A [(h0, .inr (9, [.ref qm, .ref qt, .ref qw, .ref qc, .ref qb, .ref qg, .int 0, .int 0, .int 0, .int 0, .int 0])), (qt, .inl (cT, 4, .inr (.inr (.inr (.inr (fun _ => none)))))), (qo, .inl (cL, 1, .inr (.inl (fun _ => 0))))] sz) [(qo, .inl (cL, 1, .inr (.inl (vp_updL (fun _ => 0) ((0 : Int32).toNatClampNeg) 0))))]) (va_A [(h0, .inr (9, [.ref qm, .ref qt, .ref qw, .ref qc, .ref qb, .ref qg, .int 0, .int 0, .int 0, .int 0, .int 0])), (qt, .inl (cT, 4, .inr (.inr (.inr (.inr (fun _ => none)))))), (qo, .inl (cL, 1, .inr (.inl (fun _ => 0))))] sz)) 1 3 (va_A [(h0, .inr (9, [.ref qm, .ref qt, .ref qw, .ref qc, .ref qb, .ref qg, .int 0, .int 0, .int 0, .int 0, .int 0])), (qt, .inl (cT, 4, .inr (.inr (.inr (.inr (fun _ => none)))))), (qo, .inl (cL, 1, .inr (.inl (fun _ => 0))))] sz) := by
  refine va_MetW (cc := cL_tag) (maxL := 6) (ret := (some .int)) (hh := [(0, 12, 15, 13), (0, 12, 19, 15)]) (by decide) rfl ?_
  intro p e s m args below meth c s₁ B hml hv
  obtain ⟨rfl, hsz, hP, hK, hD0, hZ⟩ := hv
  have hx := B.exec
  have hb := B.bytes
  have hr := B.returns
  have hts := atoms_spec (ws := zs_c_L_tag_ok) B.pre
  have hown : s.vm.findClass RL = some m.cls := findClass_of_methodNamed B.named
  have hlocks := B.notSynchronized
  subst hsz
  have hD := hD0.self (sz := s.heap.size)
  generalize hAe : va_A [(h0, .inr (9, [.ref qm, .ref qt, .ref qw, .ref qc, .ref qb, .ref qg, .int 0, .int 0, .int 0, .int 0, .int 0])), (qt, .inl (cT, 4, .inr (.inr (.inr (.inr (fun _ => none)))))), (qo, .inl (cL, 1, .inr (.inl (fun _ => 0))))] s.heap.size = A at hD hZ ⊢
  have hA : ∀ q : Nat, s.heap.size ≤ q → A q := fun q h => by rw [← hAe]; exact Or.inr h
  have hS : va_S A s.heap s.heap [] := va_S.rf
  have hl := lv_entry ([.ref h0, .int p0, .int p1, .int p2, .ref qo]) (n := 6) (Nat.le_of_ble_eq_true rfl)
  rw [lg_entry_eq]
  generalize (lg_sl ([.ref h0, .int p0, .int p1, .int p2, .ref qo]) ++ List.replicate (6 - (lg_sl ([.ref h0, .int p0, .int p1, .int p2, .ref qo])).length) Slot.unset).toArray = ls at hl ⊢
  have hl : lv_has ls 6 [(0, .ref h0), (1, .int p0), (2, .int p1), (3, .int p2), (4, .ref qo)] := hl
  refine lv_aload hx hb dL_tag_0 (lv_at hl 4 rfl) ?_
  refine lv_iconst (v := 0) hx hb dL_tag_2 (by decide) ?_
  refine lv_aload_n hx hb dL_tag_3 rfl (lv_at hl 0 rfl) ?_
  refine lv_iload_n hx hb dL_tag_4 rfl (lv_at hl 1 rfl) ?_
  refine lv_iload_n hx hb dL_tag_5 rfl (lv_at hl 2 rfl) ?_
  refine lv_iload_n hx hb dL_tag_6 rfl (lv_at hl 3 rfl) ?_
  have hPc := hP.sub (ws' := [(h0, .inr (9, [.ref qm, .ref qt, .ref qw, .ref qc, .ref qb, .ref qg, .int 0, .int 0, .int 0, .int 0, .int 0])), (qt, .inl (cT, 4, .inr (.inr (.inr (.inr (fun _ => none))))))]) [0, 1] rfl
  have hDc := hD.sub (ws' := [(h0, .inr (9, [.ref qm, .ref qt, .ref qw, .ref qc, .ref qb, .ref qg, .int 0, .int 0, .int 0, .int 0, .int 0])), (qt, .inl (cT, 4, .inr (.inr (.inr (.inr (fun _ => none))))))]) [0, 1] (by decide) rfl
  have hKc := hK.sub (tys' := [(cT, .object "Haltingale$Tag")]) [0] rfl
  have hFc := va_free (wc := [(h0, .inr (9, [.ref qm, .ref qt, .ref qw, .ref qc, .ref qb, .ref qg, .int 0, .int 0, .int 0, .int 0, .int 0])), (qt, .inl (cT, 4, .inr (.inr (.inr (.inr (fun _ => none))))))]) hD hS hA [0, 1] rfl
  have hZc := ((hZ.kept hS.2.1).narrow hFc)
  refine va_calli (va_runV (As := [.int p0, .int p1, .int p2]) (rest := [.int 0, .ref qo]) ⟨hx, hb, hml, hown, hts⟩ (c_X7_tag_ok l hnt dC dI a0 h0 qm qt qw qc qb qg cT p0 p1 p2 s.heap.size (by first | assumption | decide) (by first | assumption | decide) (by first | assumption | decide)) (cwV 3 hts (goodIn_of _ (by decide +kernel)) rfl rfl rfl (by decide +kernel) ⟨Nat.le_of_ble_eq_true rfl, Nat.le_of_ble_eq_true rfl⟩) ⟨fun a U g mk q => by obtain ⟨q0, q1, qP, qK, qD, qZ⟩ := q; exact ⟨q0, q1, qP, va_K.moved (u := U) (U := U.calling g mk a) (Vm.Alike.refl U.vm) qK, qD, qZ.call⟩, va_recv hKc hPc (ci := 9) (q0 := 0) rfl rfl, fun U hU hW => ⟨rfl, by rw [hU], by rw [hU]; exact hPc, va_K.moved hW.alike hKc, hDc.weaken (fun _ _ _ _ => trivial), by rw [hU]; exact hZc.warm hW⟩⟩ rfl rfl hl.1 rfl (lv_room (Nat.le_of_ble_eq_true rfl)) dL_tag_7 ⟨Nat.le_of_ble_eq_true rfl, Nat.le_of_ble_eq_true rfl⟩) hS (fun q _ h => hFc q h) hFc (fun r_1 u t H1 locs ht hvm hw hB hz1 hk1 hS => ?_)
  obtain ⟨hP1, hK1, hD1⟩ := hB
  rw [ht] at hP1
  have hK1 := va_K.moved hvm.symm hK1
  obtain ⟨hP, hD⟩ := va_join (wr := [(qo, .inl (cL, 1, .inr (.inl (fun _ => 0))))]) (w1 := []) hP hD [0, 1] [2] rfl rfl (by decide) (by decide) hk1 hFc hP1 hD1
  have hK := (hK.sub (tys' := [(cT, .object "Haltingale$Tag"), (cL, .long)]) [0, 1] rfl).app hK1
  generalize H1 = H at hP hS ⊢
  have hP : va_P (dC, dI) vwCl [(qo, .inl (cL, 1, .inr (.inl (fun _ => 0))))] H := hP
  have hD : va_D A [(qo, .inl (cL, 1, .inr (.inl (fun _ => 0))))] := hD
  have hK : va_K (dC, dI) vwCl [(cT, .object "Haltingale$Tag"), (cL, .long)] s := hK
  refine W.widen (k := 1) (n := 3) (Nat.le_of_ble_eq_true rfl) (Nat.le_of_ble_eq_true rfl) ?_
  obtain rfl : r_1 = 0 := hw
  refine lv_i2l (v := 0) hx hb dL_tag_10 (by decide) ?_
  refine va_last hx hb hK hP hD hS 0 1 rfl rfl (by unfold vp_in; decide) dL_tag_11 (fun H locs hP hD hS => ?_)
  have hP : va_P (dC, dI) vwCl [(qo, .inl (cL, 1, .inr (.inl (vp_updL (fun _ => 0) ((0 : Int32).toNatClampNeg) 0))))] H := hP
  have hD : va_D A [(qo, .inl (cL, 1, .inr (.inl (vp_updL (fun _ => 0) ((0 : Int32).toNatClampNeg) 0))))] := hD
  refine lv_goto (tgt := 23) hx hb dL_tag_12 (by decide) ?_
  refine lv_iconst (v := 0) hx hb dL_tag_23 (by decide) ?_
  have hP9 := hP.sub (ws' := [(qo, .inl (cL, 1, .inr (.inl (vp_updL (fun _ => 0) ((0 : Int32).toNatClampNeg) 0))))]) [0] rfl
  have hD9 := hD.sub (ws' := [(qo, .inl (cL, 1, .inr (.inl (vp_updL (fun _ => 0) ((0 : Int32).toNatClampNeg) 0))))]) [0] (by decide) rfl
  have hK9 := hK.sub (tys' := [(cL, .long)]) [1] rfl
  refine W.widen (k := 1) (n := 3) (Nat.le_of_ble_eq_true rfl) (Nat.le_of_ble_eq_true rfl) ?_
  exact W.iret (v := 0) hx hb hr (fun t ht hW => ⟨⟨0, (), rfl, rfl, ⟨by rw [ht]; exact hP9, va_K.moved hW.alike hK9, hD9⟩⟩, hS.F ht⟩) hS.2.2 dL_tag_24
